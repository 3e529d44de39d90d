/-! PART 81: TOKENS: the class's next -/
def CT (T : Nat → Nat) (n : Nat) (M : Nat → Nat → Int32) : Prop := M 37 2 = nI n ∧ TX T n (M 48)
def CK (M M1 : Nat → Nat → Int32) : Prop := frm [37] [] M M1 ∧ ∀ k, k < 4 → M1 37 k = M 37 k
theorem CK.rf (M : Nat → Nat → Int32) : CK M M := ⟨frm.rf _ _ _, fun _ _ => rfl⟩
theorem CK.tr {M M1 M2 : Nat → Nat → Int32} (h : CK M M1) (h2 : CK M1 M2) : CK M M2 := ⟨h.1.tr h2.1, fun k hk => (h2.2 k hk).trans (h.2 k hk)⟩
theorem CK.u {M M1 : Nat → Nat → Int32} (h : CK M M1) (k : Nat) (hk : 4 ≤ k) (x : Int32) : CK M (px_uR M1 37 (upd (M1 37) k x)) := ⟨h.1.u 37 _ (by decide) (by decide), fun j hj => by
  show upd (M1 37) k x j = M 37 j
  rw [pk_un (by omega)]
  exact h.2 j hj⟩
theorem CK.ct {T : Nat → Nat} {n : Nat} {M M1 : Nat → Nat → Int32} (h : CK M M1) (h2 : CT T n M) : CT T n M1 := by
  unfold CT
  rw [h.2 2 (by decide), h.1.1 48 (by decide) (by decide)]
  exact h2
def TKc (b : Nat) (t : Nat × Nat × Int32) (M : Nat → Nat → Int32) : Prop := M 37 4 = nI b ∧ M 37 5 = nI t.1 ∧ M 37 6 = nI t.2.1 ∧ (t.2.1 = 2 ∨ t.2.1 = 3 → M 37 7 = t.2.2)
section S81
variable (d : Nat) (J : Nat → Nat → Int64) (R : Nat → Nat → Option Nat) (nL : Nat) (xs : Nat → Int32) (D : px_H)
theorem c_num_l_38 {T : Nat → Nat} {n b : Nat} (hn : n ≤ 160) : ∀ (g a : Nat) (M : Nat → Nat → Int32), a + g = n → b ≤ a → CT T n M → M 37 4 = nI b → M 37 5 = nI a → M 37 7 = nv T b (a - b) → ∃ M1, px_run (px_mk (kX5_takeNumber (px_ex px_tab (d + 1)))) 5 ([some (Value.ref (37))], [], (hp (M) (J) (R) (38) (43) nL xs (D))) = some (none, (hp (M1) (J) (R) (38) (43) nL xs (D))) ∧ CK M M1 ∧ TKc b (scn (isD T) g a, (if scn (isD T) g a - b ≤ 4 then 2 else 1), nv T b (scn (isD T) g a - b)) M1 := by
  have fin : ∀ (a : Nat) (M : Nat → Nat → Int32), b ≤ a → a ≤ 160 → M 37 4 = nI b → M 37 5 = nI a → M 37 7 = nv T b (a - b) → ∃ M1, px_run (px_mk (kX5_takeNumber (px_ex px_tab (d + 1)))) 68 ([some (Value.ref (37))], [], (hp (M) (J) (R) (38) (43) nL xs (D))) = some (none, (hp (M1) (J) (R) (38) (43) nL xs (D))) ∧ CK M M1 ∧ TKc b (a, (if a - b ≤ 4 then 2 else 1), nv T b (a - b)) M1 := by
    intro a M hb ha h4 h5 h7
    have x : (nI (a - b) ≤ (4 : Int32)) ↔ a - b ≤ 4 := nI_leI (b := 4) (by omega) (by decide)
    by_cases h : a - b ≤ 4
    · refine ⟨px_uR M 37 (upd (M 37) 6 2), ?_, (CK.rf M).u 6 (by decide) _, h4, h5, ?_, fun _ => h7⟩
      · rw [eX5_takeNumber_38_68, h4, h5, pk_sub hb]
        simp only [px_bd_s, px_psh_s, px_psh_n, px_vb_s, px_ib_s, px_wb_s, px_bo_s, px_bo_n, Bool.cond_decide, cond_true, cond_false, ite_not, Bool.and_true, if_true, if_false, not_true_eq_false, not_false_eq_true, i10, eq_self, decide_true, decide_false, Bool.or_true, Bool.true_or, Bool.or_false, Bool.false_or, Bool.false_eq_true, x, h, eX5_takeNumber_38_86, eX5_takeNumber_38_87]
      · show upd (M 37) 6 2 6 = nI (if a - b ≤ 4 then 2 else 1)
        rw [if_pos h]
        exact pk_us
    · refine ⟨px_uR M 37 (upd (M 37) 6 1), ?_, (CK.rf M).u 6 (by decide) _, h4, h5, ?_, fun _ => h7⟩
      · rw [eX5_takeNumber_38_68, h4, h5, pk_sub hb]
        simp only [px_bd_s, px_psh_s, px_psh_n, px_vb_s, px_ib_s, px_wb_s, px_bo_s, px_bo_n, Bool.cond_decide, cond_true, cond_false, ite_not, Bool.and_true, if_true, if_false, not_true_eq_false, not_false_eq_true, i10, eq_self, decide_true, decide_false, Bool.or_true, Bool.true_or, Bool.or_false, Bool.false_or, Bool.false_eq_true, x, h, eX5_takeNumber_38_87]
      · show upd (M 37) 6 1 6 = nI (if a - b ≤ 4 then 2 else 1)
        rw [if_neg h]
        exact pk_us
  intro g
  induction g with
  | zero =>
    intro a M hg hb hT h4 h5 h7
    obtain ⟨M1, q1, q2⟩ := fin a M hb (by omega) h4 h5 h7
    refine ⟨M1, ?_, q2⟩
    refine Eq.trans ?_ q1
    rw [eX5_takeNumber_38_5, hT.1, h5]
    simp (disch := omega) only [px_bd_s, px_psh_s, px_psh_n, px_vb_s, px_ib_s, px_wb_s, px_bo_s, px_bo_n, Bool.cond_decide, cond_true, cond_false, ite_not, Bool.and_true, if_true, if_false, not_true_eq_false, not_false_eq_true, i10, eq_self, decide_true, decide_false, Bool.or_true, Bool.true_or, Bool.or_false, Bool.false_or, Bool.false_eq_true, nI_leI, if_pos]
  | succ g ih =>
    intro a M hg hb hT h4 h5 h7
    obtain ⟨t1, t2⟩ := hT.2 a (by omega)
    rw [scn_s]
    by_cases hd : isD T a = true
    · rw [if_pos hd]
      have hd' : 48 ≤ T a ∧ T a ≤ 57 := of_decide_eq_true hd
      have ck : CK M (px_uR M 37 (upd (upd (M 37) 7 (10 * M 37 7 + M 48 a - 48)) 5 (nI (a + 1)))) := by
        have := ((CK.rf M).u 7 (by decide) (10 * M 37 7 + M 48 a - 48)).u 5 (by decide) (nI (a + 1))
        rw [px_uR_2] at this
        exact this
      obtain ⟨M1, q1, q2, q3⟩ := ih (a + 1) (px_uR M 37 (upd (upd (M 37) 7 (10 * M 37 7 + M 48 a - 48)) 5 (nI (a + 1)))) (by omega) (by omega) (ck.ct hT) h4 rfl (by
        show 10 * M 37 7 + M 48 a - 48 = nv T b (a + 1 - b)
        rw [show a + 1 - b = (a - b) + 1 from by omega, nv_s, h7, t2, show b + (a - b) = a from by omega])
      refine ⟨M1, ?_, ck.tr q2, q3⟩
      refine Eq.trans ?_ q1
      rw [eX5_takeNumber_38_5, hT.1, h5]
      simp (disch := omega) only [px_bd_s, px_psh_s, px_psh_n, px_vb_s, px_ib_s, px_wb_s, px_bo_s, px_bo_n, Bool.cond_decide, cond_true, cond_false, ite_not, Bool.and_true, if_true, if_false, not_true_eq_false, not_false_eq_true, i10, eq_self, decide_true, decide_false, Bool.or_true, Bool.true_or, Bool.or_false, Bool.false_or, Bool.false_eq_true, nI_leI, if_neg, px_inbT, nI_clamp, t2, c_isDig_38 _ _ _ _ _ _ _ t1, hd', and_self, eX5_takeNumber_38_5_11, h5, zp1]
    · rw [if_neg hd]
      have hd' : ¬ (48 ≤ T a ∧ T a ≤ 57) := fun q => hd (decide_eq_true q)
      obtain ⟨M1, q1, q2⟩ := fin a M hb (by omega) h4 h5 h7
      refine ⟨M1, ?_, q2⟩
      refine Eq.trans ?_ q1
      rw [eX5_takeNumber_38_5, hT.1, h5]
      simp (disch := omega) only [px_bd_s, px_psh_s, px_psh_n, px_vb_s, px_ib_s, px_wb_s, px_bo_s, px_bo_n, Bool.cond_decide, cond_true, cond_false, ite_not, Bool.and_true, if_true, if_false, not_true_eq_false, not_false_eq_true, i10, eq_self, decide_true, decide_false, Bool.or_true, Bool.true_or, Bool.or_false, Bool.false_or, Bool.false_eq_true, nI_leI, if_neg, px_inbT, nI_clamp, t2, c_isDig_38 _ _ _ _ _ _ _ t1, hd', eX5_takeNumber_38_5_11]
theorem c_num_38 {T : Nat → Nat} {n b : Nat} (hn : n ≤ 160) (hb : b ≤ n) (M : Nat → Nat → Int32) (hT : CT T n M) (h4 : M 37 4 = nI b) (h5 : M 37 5 = nI b) : ∃ M1, px_ex px_tab (d + 2) 65 [Value.ref (37)] (hp (M) (J) (R) (38) (43) nL xs (D)) = some (none, (hp (M1) (J) (R) (38) (43) nL xs (D))) ∧ CK M M1 ∧ TKc b (scn (isD T) (n - b) b, (if scn (isD T) (n - b) b - b ≤ 4 then 2 else 1), nv T b (scn (isD T) (n - b) b - b)) M1 := by
  have ck := (CK.rf M).u 7 (by decide) 0
  obtain ⟨M1, q1, q2, q3⟩ := c_num_l_38 d J R nL xs D hn (n - b) b (px_uR M 37 (upd (M 37) 7 0)) (by omega) (Nat.le_refl _) (ck.ct hT) h4 h5 (by
    rw [Nat.sub_self]
    rfl)
  refine ⟨M1, ?_, ck.tr q2, q3⟩
  rw [xX5_takeNumber, eX5_takeNumber_38_0]
  exact q1
theorem c_hand_g_38 {T ch : Nat → Nat} {n b l f L : Nat} (hn : n ≤ 160) (hb : b + l ≤ n) (hL : L ≤ 5) (hc : ∀ j, j < L → ch j < 256) (M : Nat → Nat → Int32) (hT : CT T n M) (h4 : M 37 4 = nI b) (h5 : M 37 5 = nI (b + l)) (H0 : px_p (kX5_isAtHand (px_ex px_tab d)) 0 1 ([some (Value.ref (37)), some (Value.ref (f)), none], [Value.ref (f)], (hp (M) (J) (R) (38) (43) nL xs (D))) = px_p (kX5_isAtHand (px_ex px_tab d)) 0 2 ([some (Value.ref (37)), some (Value.ref (f)), none], [Value.int (nI L)], (hp (M) (J) (R) (38) (43) nL xs (D)))) (H1 : ∀ v, px_p (kX5_isAtHand (px_ex px_tab d)) 20 2 ([some (Value.ref (37)), some (Value.ref (f)), some (Value.int (v))], [Value.ref (f), Value.int (v)], (hp (M) (J) (R) (38) (43) nL xs (D))) = px_p (kX5_isAtHand (px_ex px_tab d)) 20 3 ([some (Value.ref (37)), some (Value.ref (f)), some (Value.int (v))], [Value.int (nI L), Value.int (v)], (hp (M) (J) (R) (38) (43) nL xs (D)))) (H2 : ∀ j, j < L → px_p (kX5_isAtHand (px_ex px_tab d)) 20 6 ([some (Value.ref (37)), some (Value.ref (f)), some (Value.int (nI j))], [Value.int (nI j), Value.ref (f)], (hp (M) (J) (R) (38) (43) nL xs (D))) = px_p (kX5_isAtHand (px_ex px_tab d)) 20 7 ([some (Value.ref (37)), some (Value.ref (f)), some (Value.int (nI j))], [Value.int (nI (ch j))], (hp (M) (J) (R) (38) (43) nL xs (D)))) : px_ex px_tab (d + 1) 67 [Value.ref (37), Value.ref (f)] (hp (M) (J) (R) (38) (43) nL xs (D)) = some (some (Value.int (if (decide (L = l) && eqr T ch b L 0) = true then 1 else 0)), (hp (M) (J) (R) (38) (43) nL xs (D))) := by
  have lp : L = l → ∀ g j, j + g = L → px_run (px_mk (kX5_isAtHand (px_ex px_tab d))) 20 ([some (Value.ref (37)), some (Value.ref (f)), some (Value.int (nI j))], [], (hp (M) (J) (R) (38) (43) nL xs (D))) = some (some (Value.int (if eqr T ch b g j = true then 1 else 0)), (hp (M) (J) (R) (38) (43) nL xs (D))) := by
    intro hl g
    induction g with
    | zero =>
      intro j hj
      rw [eX5_isAtHand_38_20, H1, eX5_isAtHand_38_20_3]
      simp (disch := omega) only [px_bd_s, px_psh_s, px_psh_n, px_vb_s, px_ib_s, px_wb_s, px_bo_s, px_bo_n, Bool.cond_decide, cond_true, cond_false, ite_not, Bool.and_true, if_true, if_false, not_true_eq_false, not_false_eq_true, i10, eq_self, decide_true, decide_false, Bool.or_true, Bool.true_or, Bool.or_false, Bool.false_or, Bool.false_eq_true, nI_leI, if_pos, eX5_isAtHand_38_55]
      rfl
    | succ g ih =>
      intro j hj
      obtain ⟨t1, t2⟩ := hT.2 (b + j) (by omega)
      have x : (nI (ch j) = nI (T (b + j))) ↔ T (b + j) = ch j := by
        rw [nI_eq (by have := hc j (by omega); omega) (by omega)]
        exact eq_comm
      have k := ih (j + 1) (by omega)
      rw [eqr_s, eX5_isAtHand_38_20, H1, eX5_isAtHand_38_20_3]
      simp (disch := omega) only [px_bd_s, px_psh_s, px_psh_n, px_vb_s, px_ib_s, px_wb_s, px_bo_s, px_bo_n, Bool.cond_decide, cond_true, cond_false, ite_not, Bool.and_true, if_true, if_false, not_true_eq_false, not_false_eq_true, i10, eq_self, decide_true, decide_false, Bool.or_true, Bool.true_or, Bool.or_false, Bool.false_or, Bool.false_eq_true, nI_leI, if_neg, H2 j (by omega), eX5_isAtHand_38_20_7, h4, nI_add, px_inbT, nI_clamp, t2, x]
      by_cases h : T (b + j) = ch j
      · simp only [px_bd_s, px_psh_s, px_psh_n, px_vb_s, px_ib_s, px_wb_s, px_bo_s, px_bo_n, Bool.cond_decide, cond_true, cond_false, ite_not, Bool.and_true, if_true, if_false, not_true_eq_false, not_false_eq_true, i10, eq_self, decide_true, decide_false, Bool.or_true, Bool.true_or, Bool.or_false, Bool.false_or, Bool.false_eq_true, h, eX5_isAtHand_38_49, zp1, k, Bool.true_and]
      · simp only [px_bd_s, px_psh_s, px_psh_n, px_vb_s, px_ib_s, px_wb_s, px_bo_s, px_bo_n, Bool.cond_decide, cond_true, cond_false, ite_not, Bool.and_true, if_true, if_false, not_true_eq_false, not_false_eq_true, i10, eq_self, decide_true, decide_false, Bool.or_true, Bool.true_or, Bool.or_false, Bool.false_or, Bool.false_eq_true, h, Bool.false_and]
  rw [xX5_isAtHand, eX5_isAtHand_38_0, H0, eX5_isAtHand_38_0_2, h4, h5, pk_sub (by omega), show b + l - b = l from by omega]
  have x : (nI L = nI l) ↔ L = l := nI_eq (by omega) (by omega)
  by_cases h : L = l
  · simp only [px_bd_s, px_psh_s, px_psh_n, px_vb_s, px_ib_s, px_wb_s, px_bo_s, px_bo_n, Bool.cond_decide, cond_true, cond_false, ite_not, Bool.and_true, if_true, if_false, not_true_eq_false, not_false_eq_true, i10, eq_self, decide_true, decide_false, Bool.or_true, Bool.true_or, Bool.or_false, Bool.false_or, Bool.false_eq_true, x, h, eX5_isAtHand_38_18, Bool.true_and]
    have := lp h L 0 (by omega)
    rw [h] at this
    exact this
  · simp only [px_bd_s, px_psh_s, px_psh_n, px_vb_s, px_ib_s, px_wb_s, px_bo_s, px_bo_n, Bool.cond_decide, cond_true, cond_false, ite_not, Bool.and_true, if_true, if_false, not_true_eq_false, not_false_eq_true, i10, eq_self, decide_true, decide_false, Bool.or_true, Bool.true_or, Bool.or_false, Bool.false_or, Bool.false_eq_true, x, h, Bool.false_and]
theorem c_hand_38 {T : Nat → Nat} {n b l i : Nat} (hn : n ≤ 160) (hb : b + l ≤ n) (hi : i < 10) (M : Nat → Nat → Int32) (hT : CT T n M) (h4 : M 37 4 = nI b) (h5 : M 37 5 = nI (b + l)) : px_ex px_tab (d + 1) 67 [Value.ref (37), Value.ref (3 + i)] (hp (M) (J) (R) (38) (43) nL xs (D)) = some (some (Value.int (if mtch T b l i = true then 1 else 0)), (hp (M) (J) (R) (38) (43) nL xs (D))) := by
  unfold mtch
  rcases (by omega : i = 0 ∨ i = 1 ∨ i = 2 ∨ i = 3 ∨ i = 4 ∨ i = 5 ∨ i = 6 ∨ i = 7 ∨ i = 8 ∨ i = 9) with rfl | rfl | rfl | rfl | rfl | rfl | rfl | rfl | rfl | rfl
  · exact c_hand_g_38 d J R nL xs D (f := 3) (L := 4) hn hb (by decide) (by decide) M hT h4 h5 rfl (fun v => rfl) (fun j hj => by rcases (by omega : j = 0 ∨ j = 1 ∨ j = 2 ∨ j = 3) with rfl | rfl | rfl | rfl <;> rfl)
  · exact c_hand_g_38 d J R nL xs D (f := 4) (L := 4) hn hb (by decide) (by decide) M hT h4 h5 rfl (fun v => rfl) (fun j hj => by rcases (by omega : j = 0 ∨ j = 1 ∨ j = 2 ∨ j = 3) with rfl | rfl | rfl | rfl <;> rfl)
  · exact c_hand_g_38 d J R nL xs D (f := 5) (L := 5) hn hb (by decide) (by decide) M hT h4 h5 rfl (fun v => rfl) (fun j hj => by rcases (by omega : j = 0 ∨ j = 1 ∨ j = 2 ∨ j = 3 ∨ j = 4) with rfl | rfl | rfl | rfl | rfl <;> rfl)
  · exact c_hand_g_38 d J R nL xs D (f := 6) (L := 1) hn hb (by decide) (by decide) M hT h4 h5 rfl (fun v => rfl) (fun j hj => by rcases (by omega : j = 0) with rfl; rfl)
  · exact c_hand_g_38 d J R nL xs D (f := 7) (L := 1) hn hb (by decide) (by decide) M hT h4 h5 rfl (fun v => rfl) (fun j hj => by rcases (by omega : j = 0) with rfl; rfl)
  · exact c_hand_g_38 d J R nL xs D (f := 8) (L := 3) hn hb (by decide) (by decide) M hT h4 h5 rfl (fun v => rfl) (fun j hj => by rcases (by omega : j = 0 ∨ j = 1 ∨ j = 2) with rfl | rfl | rfl <;> rfl)
  · exact c_hand_g_38 d J R nL xs D (f := 9) (L := 3) hn hb (by decide) (by decide) M hT h4 h5 rfl (fun v => rfl) (fun j hj => by rcases (by omega : j = 0 ∨ j = 1 ∨ j = 2) with rfl | rfl | rfl <;> rfl)
  · exact c_hand_g_38 d J R nL xs D (f := 10) (L := 2) hn hb (by decide) (by decide) M hT h4 h5 rfl (fun v => rfl) (fun j hj => by rcases (by omega : j = 0 ∨ j = 1) with rfl | rfl <;> rfl)
  · exact c_hand_g_38 d J R nL xs D (f := 11) (L := 3) hn hb (by decide) (by decide) M hT h4 h5 rfl (fun v => rfl) (fun j hj => by rcases (by omega : j = 0 ∨ j = 1 ∨ j = 2) with rfl | rfl | rfl <;> rfl)
  · exact c_hand_g_38 d J R nL xs D (f := 12) (L := 3) hn hb (by decide) (by decide) M hT h4 h5 rfl (fun v => rfl) (fun j hj => by rcases (by omega : j = 0 ∨ j = 1 ∨ j = 2) with rfl | rfl | rfl <;> rfl)
theorem c_wordAt_38 {i : Nat} (hi : i < 10) (M : Nat → Nat → Int32) : px_ex px_tab (d + 1) 68 [Value.int (nI i)] (hp (M) (J) (R) (38) (43) nL xs (D)) = some (some (Value.ref (3 + i)), (hp (M) (J) (R) (38) (43) nL xs (D))) := by
  rw [xX5_wordAt, eX5_wordAt_38_0, eX5_wordAt_38_52, eX5_wordAt_38_55, eX5_wordAt_38_58, eX5_wordAt_38_61, eX5_wordAt_38_64, eX5_wordAt_38_67, eX5_wordAt_38_70, eX5_wordAt_38_73, eX5_wordAt_38_76, eX5_wordAt_38_79]
  rcases (by omega : i = 0 ∨ i = 1 ∨ i = 2 ∨ i = 3 ∨ i = 4 ∨ i = 5 ∨ i = 6 ∨ i = 7 ∨ i = 8 ∨ i = 9) with rfl | rfl | rfl | rfl | rfl | rfl | rfl | rfl | rfl | rfl <;> rfl
theorem c_wd_l_38 {T : Nat → Nat} {n b l : Nat} (hn : n ≤ 160) (hb : b + l ≤ n) : ∀ (g i : Nat) (M : Nat → Nat → Int32), i + g = 10 → CT T n M → TKc b (b + l, (wtk T b l i).1, nI (wtk T b l i).2) M → ∃ M1, px_run (px_mk (kX5_takeWord (px_ex px_tab (d + 1)))) 46 ([some (Value.ref (37)), some (Value.int (nI i))], [], (hp (M) (J) (R) (38) (43) nL xs (D))) = some (none, (hp (M1) (J) (R) (38) (43) nL xs (D))) ∧ CK M M1 ∧ TKc b (b + l, (wtk T b l 10).1, nI (wtk T b l 10).2) M1
  | 0, i, M, hg, hT, hK => by
    rw [show i = 10 from by omega] at hK ⊢
    refine ⟨M, ?_, CK.rf M, hK⟩
    rw [eX5_takeWord_38_46]
    simp only [px_bd_s, px_psh_s, px_psh_n, px_vb_s, px_ib_s, px_wb_s, px_bo_s, px_bo_n, Bool.cond_decide, cond_true, cond_false, ite_not, Bool.and_true, if_true, if_false, not_true_eq_false, not_false_eq_true, i10, eq_self, decide_true, decide_false, Bool.or_true, Bool.true_or, Bool.or_false, Bool.false_or, Bool.false_eq_true, show (10 : Int32) ≤ nI 10 from by decide, eX5_takeWord_38_95]
  | g + 1, i, M, hg, hT, hK => by
    have x : ¬ (10 : Int32) ≤ nI i := fun q => by
      have := (nI_leI (a := 10) (by decide) (by omega)).mp q
      omega
    have hh := c_hand_38 d J R nL xs D hn hb (i := i) (by omega) M hT hK.1 hK.2.1
    have ww := c_wordAt_38 d J R nL xs D (i := i) (by omega) M
    by_cases hm : mtch T b l i = true
    · have ew : wtk T b l (i + 1) = (if i < 6 then 3 else 4 + i, i) := by rw [wtk_s, if_pos hm]
      rw [if_pos hm] at hh
      have ck : CK M (px_uR M 37 (upd (upd (M 37) 6 (nI (if i < 6 then 3 else 4 + i))) 7 (nI i))) := by
        have := ((CK.rf M).u 6 (by decide) (nI (if i < 6 then 3 else 4 + i))).u 7 (by decide) (nI i)
        rw [px_uR_2] at this
        exact this
      obtain ⟨M1, q1, q2, q3⟩ := c_wd_l_38 hn hb g (i + 1) (px_uR M 37 (upd (upd (M 37) 6 (nI (if i < 6 then 3 else 4 + i))) 7 (nI i))) (by omega) (ck.ct hT) ⟨hK.1, hK.2.1, by rw [ew]; rfl, fun _ => by rw [ew]; rfl⟩
      refine ⟨M1, ?_, ck.tr q2, q3⟩
      refine Eq.trans ?_ q1
      rw [eX5_takeWord_38_46]
      have x6 : ((6 : Int32) ≤ nI i) ↔ 6 ≤ i := nI_leI (a := 6) (by decide) (by omega)
      by_cases h6 : 6 ≤ i
      · have e6 : (10 : Int32) + nI i - 6 = nI (4 + i) := by
          rw [show (10 : Int32) + nI i = nI (10 + i) from nI_add 10 i, show nI (10 + i) - 6 = nI (10 + i - 6) from pk_sub (b := 6) (by omega), show 10 + i - 6 = 4 + i from by omega]
        rw [if_neg (show ¬ i < 6 by omega)]
        simp only [px_bd_s, px_psh_s, px_psh_n, px_vb_s, px_ib_s, px_wb_s, px_bo_s, px_bo_n, Bool.cond_decide, cond_true, cond_false, ite_not, Bool.and_true, if_true, if_false, not_true_eq_false, not_false_eq_true, i10, eq_self, decide_true, decide_false, Bool.or_true, Bool.true_or, Bool.or_false, Bool.false_or, Bool.false_eq_true, x, ww, eX5_takeWord_38_46_6, hh, eX5_takeWord_38_46_7, x6, h6, eX5_takeWord_38_74, e6, eX5_takeWord_38_81, eX5_takeWord_38_89, zp1]
      · rw [if_pos (show i < 6 by omega)]
        simp only [px_bd_s, px_psh_s, px_psh_n, px_vb_s, px_ib_s, px_wb_s, px_bo_s, px_bo_n, Bool.cond_decide, cond_true, cond_false, ite_not, Bool.and_true, if_true, if_false, not_true_eq_false, not_false_eq_true, i10, eq_self, decide_true, decide_false, Bool.or_true, Bool.true_or, Bool.or_false, Bool.false_or, Bool.false_eq_true, x, ww, eX5_takeWord_38_46_6, hh, eX5_takeWord_38_46_7, x6, h6, eX5_takeWord_38_81, eX5_takeWord_38_89, zp1]
        rfl
    · have ew : wtk T b l (i + 1) = wtk T b l i := by rw [wtk_s, if_neg hm]
      rw [if_neg hm] at hh
      obtain ⟨M1, q1, q2, q3⟩ := c_wd_l_38 hn hb g (i + 1) M (by omega) hT (by rw [ew]; exact hK)
      refine ⟨M1, ?_, q2, q3⟩
      refine Eq.trans ?_ q1
      rw [eX5_takeWord_38_46]
      simp only [px_bd_s, px_psh_s, px_psh_n, px_vb_s, px_ib_s, px_wb_s, px_bo_s, px_bo_n, Bool.cond_decide, cond_true, cond_false, ite_not, Bool.and_true, if_true, if_false, not_true_eq_false, not_false_eq_true, i10, eq_self, decide_true, decide_false, Bool.or_true, Bool.true_or, Bool.or_false, Bool.false_or, Bool.false_eq_true, x, ww, eX5_takeWord_38_46_6, hh, eX5_takeWord_38_46_7, eX5_takeWord_38_89, zp1]
theorem c_word_38 {T : Nat → Nat} {n b : Nat} (hn : n ≤ 160) : ∀ (g a : Nat) (M : Nat → Nat → Int32), a + g = n → b ≤ a → CT T n M → M 37 4 = nI b → M 37 5 = nI a → ∃ M1, px_ex px_tab (d + 2) 66 [Value.ref (37)] (hp (M) (J) (R) (38) (43) nL xs (D)) = some (none, (hp (M1) (J) (R) (38) (43) nL xs (D))) ∧ CK M M1 ∧ TKc b (scn (isL T) g a, (wtk T b (scn (isL T) g a - b) 10).1, nI (wtk T b (scn (isL T) g a - b) 10).2) M1 := by
  have fin : ∀ (a : Nat) (M : Nat → Nat → Int32), b ≤ a → a ≤ n → CT T n M → M 37 4 = nI b → M 37 5 = nI a → ∃ M1, px_run (px_mk (kX5_takeWord (px_ex px_tab (d + 1)))) 39 ([some (Value.ref (37)), none], [], (hp (M) (J) (R) (38) (43) nL xs (D))) = some (none, (hp (M1) (J) (R) (38) (43) nL xs (D))) ∧ CK M M1 ∧ TKc b (a, (wtk T b (a - b) 10).1, nI (wtk T b (a - b) 10).2) M1 := by
    intro a M hb ha hT h4 h5
    have ck := (CK.rf M).u 6 (by decide) 1
    obtain ⟨M1, q1, q2, q3⟩ := c_wd_l_38 d J R nL xs D (l := a - b) (b := b) hn (by omega) 10 0 (px_uR M 37 (upd (M 37) 6 1)) (by omega) (ck.ct hT) ⟨h4, by rw [show b + (a - b) = a from by omega]; exact h5, rfl, fun q => by
      have q' : (1 : Nat) = 2 ∨ (1 : Nat) = 3 := q
      omega⟩
    rw [show b + (a - b) = a from by omega] at q3
    refine ⟨M1, ?_, ck.tr q2, q3⟩
    rw [eX5_takeWord_38_39]
    exact q1
  intro g
  induction g with
  | zero =>
    intro a M hg hb hT h4 h5
    obtain ⟨M1, q1, q2⟩ := fin a M hb (by omega) hT h4 h5
    refine ⟨M1, ?_, q2⟩
    rw [xX5_takeWord]
    refine Eq.trans ?_ q1
    rw [eX5_takeWord_38_0, hT.1, h5]
    simp (disch := omega) only [px_bd_s, px_psh_s, px_psh_n, px_vb_s, px_ib_s, px_wb_s, px_bo_s, px_bo_n, Bool.cond_decide, cond_true, cond_false, ite_not, Bool.and_true, if_true, if_false, not_true_eq_false, not_false_eq_true, i10, eq_self, decide_true, decide_false, Bool.or_true, Bool.true_or, Bool.or_false, Bool.false_or, Bool.false_eq_true, nI_leI, if_pos]
  | succ g ih =>
    intro a M hg hb hT h4 h5
    obtain ⟨t1, t2⟩ := hT.2 a (by omega)
    rw [scn_s]
    by_cases hd : isL T a = true
    · rw [if_pos hd]
      have hd' : 97 ≤ T a ∧ T a ≤ 122 := of_decide_eq_true hd
      have ck := (CK.rf M).u 5 (by decide) (nI (a + 1))
      obtain ⟨M1, q1, q2, q3⟩ := ih (a + 1) (px_uR M 37 (upd (M 37) 5 (nI (a + 1)))) (by omega) (by omega) (ck.ct hT) h4 rfl
      refine ⟨M1, ?_, ck.tr q2, q3⟩
      rw [xX5_takeWord] at q1 ⊢
      refine Eq.trans ?_ q1
      rw [eX5_takeWord_38_0, hT.1, h5]
      simp (disch := omega) only [px_bd_s, px_psh_s, px_psh_n, px_vb_s, px_ib_s, px_wb_s, px_bo_s, px_bo_n, Bool.cond_decide, cond_true, cond_false, ite_not, Bool.and_true, if_true, if_false, not_true_eq_false, not_false_eq_true, i10, eq_self, decide_true, decide_false, Bool.or_true, Bool.true_or, Bool.or_false, Bool.false_or, Bool.false_eq_true, nI_leI, if_neg, px_inbT, nI_clamp, t2, c_isLet_38 _ _ _ _ _ _ _ t1, hd', and_self, eX5_takeWord_38_0_11, h5, zp1]
    · rw [if_neg hd]
      have hd' : ¬ (97 ≤ T a ∧ T a ≤ 122) := fun q => hd (decide_eq_true q)
      obtain ⟨M1, q1, q2⟩ := fin a M hb (by omega) hT h4 h5
      refine ⟨M1, ?_, q2⟩
      rw [xX5_takeWord]
      refine Eq.trans ?_ q1
      rw [eX5_takeWord_38_0, hT.1, h5]
      simp (disch := omega) only [px_bd_s, px_psh_s, px_psh_n, px_vb_s, px_ib_s, px_wb_s, px_bo_s, px_bo_n, Bool.cond_decide, cond_true, cond_false, ite_not, Bool.and_true, if_true, if_false, not_true_eq_false, not_false_eq_true, i10, eq_self, decide_true, decide_false, Bool.or_true, Bool.true_or, Bool.or_false, Bool.false_or, Bool.false_eq_true, nI_leI, if_neg, px_inbT, nI_clamp, t2, c_isLet_38 _ _ _ _ _ _ _ t1, hd', eX5_takeWord_38_0_11]
theorem c_skp_38 {T : Nat → Nat} {n : Nat} (hn : n ≤ 160) (M : Nat → Nat → Int32) (hT : CT T n M) : ∀ (g a : Nat), a + g = n → px_run (px_mk (kX5_next (px_ex px_tab d))) 5 ([some (Value.ref (37)), some (Value.int (nI a))], [], (hp (M) (J) (R) (38) (43) nL xs (D))) = px_run (px_mk (kX5_next (px_ex px_tab d))) 41 ([some (Value.ref (37)), some (Value.int (nI (scn (isB T) g a)))], [], (hp (M) (J) (R) (38) (43) nL xs (D)))
  | 0, a, hg => by
    rw [eX5_next_38_5, hT.1]
    simp (disch := omega) only [px_bd_s, px_psh_s, px_psh_n, px_vb_s, px_ib_s, px_wb_s, px_bo_s, px_bo_n, Bool.cond_decide, cond_true, cond_false, ite_not, Bool.and_true, if_true, if_false, not_true_eq_false, not_false_eq_true, i10, eq_self, decide_true, decide_false, Bool.or_true, Bool.true_or, Bool.or_false, Bool.false_or, Bool.false_eq_true, nI_leI, if_pos]
    rfl
  | g + 1, a, hg => by
    obtain ⟨t1, t2⟩ := hT.2 a (by omega)
    have ih := c_skp_38 hn M hT g (a + 1) (by omega)
    rw [scn_s, eX5_next_38_5, hT.1]
    simp (disch := omega) only [px_bd_s, px_psh_s, px_psh_n, px_vb_s, px_ib_s, px_wb_s, px_bo_s, px_bo_n, Bool.cond_decide, cond_true, cond_false, ite_not, Bool.and_true, if_true, if_false, not_true_eq_false, not_false_eq_true, i10, eq_self, decide_true, decide_false, Bool.or_true, Bool.true_or, Bool.or_false, Bool.false_or, Bool.false_eq_true, nI_leI, if_neg, px_inbT, nI_clamp, t2, zs32, zs10]
    by_cases h1 : T a = 32
    · have hb : isB T a = true := decide_eq_true (Or.inl h1)
      simp only [px_bd_s, px_psh_s, px_psh_n, px_vb_s, px_ib_s, px_wb_s, px_bo_s, px_bo_n, Bool.cond_decide, cond_true, cond_false, ite_not, Bool.and_true, if_true, if_false, not_true_eq_false, not_false_eq_true, i10, eq_self, decide_true, decide_false, Bool.or_true, Bool.true_or, Bool.or_false, Bool.false_or, Bool.false_eq_true, h1, hb, eX5_next_38_35, zp1, ih]
    · by_cases h2 : T a = 10
      · have hb : isB T a = true := decide_eq_true (Or.inr h2)
        simp only [px_bd_s, px_psh_s, px_psh_n, px_vb_s, px_ib_s, px_wb_s, px_bo_s, px_bo_n, Bool.cond_decide, cond_true, cond_false, ite_not, Bool.and_true, if_true, if_false, not_true_eq_false, not_false_eq_true, i10, eq_self, decide_true, decide_false, Bool.or_true, Bool.true_or, Bool.or_false, Bool.false_or, Bool.false_eq_true, h1, h2, hb, eX5_next_38_35, zp1, ih, show ¬ (10 : Nat) = 32 from by decide]
      · have hb : ¬ isB T a = true := fun q => by
          rcases of_decide_eq_true q with z | z
          · exact h1 z
          · exact h2 z
        simp only [px_bd_s, px_psh_s, px_psh_n, px_vb_s, px_ib_s, px_wb_s, px_bo_s, px_bo_n, Bool.cond_decide, cond_true, cond_false, ite_not, Bool.and_true, if_true, if_false, not_true_eq_false, not_false_eq_true, i10, eq_self, decide_true, decide_false, Bool.or_true, Bool.true_or, Bool.or_false, Bool.false_or, Bool.false_eq_true, h1, h2, hb]
theorem c_next_38 {T : Nat → Nat} {n a : Nat} (hn : n ≤ 160) (ha : a ≤ n) (M : Nat → Nat → Int32) (hT : CT T n M) (h5 : M 37 5 = nI a) : ∃ M1, px_ex px_tab (d + 3) 61 [Value.ref (37)] (hp (M) (J) (R) (38) (43) nL xs (D)) = some (none, (hp (M1) (J) (R) (38) (43) nL xs (D))) ∧ CK M M1 ∧ TKc (skp T n a) (tka T n (skp T n a)) M1 := by
  have sk := c_skp_38 (d + 2) J R nL xs D hn M hT (n - a) a (by omega)
  have sb := skp_b T ha
  have e0 : px_ex px_tab (d + 3) 61 [Value.ref (37)] (hp (M) (J) (R) (38) (43) nL xs (D)) = px_run (px_mk (kX5_next (px_ex px_tab (d + 2)))) 41 ([some (Value.ref (37)), some (Value.int (nI (skp T n a)))], [], (hp (M) (J) (R) (38) (43) nL xs (D))) := by
    rw [xX5_next, eX5_next_38_0, h5]
    exact sk
  rw [e0]
  generalize skp T n a = b at sb
  have ckb : CK M (px_uR M 37 (upd (upd (M 37) 4 (nI b)) 5 (nI b))) := by
    have := ((CK.rf M).u 4 (by decide) (nI b)).u 5 (by decide) (nI b)
    rw [px_uR_2] at this
    exact this
  unfold tka
  by_cases h0 : n ≤ b
  · rw [if_pos h0]
    have ck := ckb.u 6 (by decide) 0
    rw [px_uR_2] at ck
    refine ⟨_, ?_, ck, rfl, rfl, rfl, fun q => by
      have q' : (0 : Nat) = 2 ∨ (0 : Nat) = 3 := q
      omega⟩
    rw [eX5_next_38_41, hT.1]
    simp (disch := omega) only [px_bd_s, px_psh_s, px_psh_n, px_vb_s, px_ib_s, px_wb_s, px_bo_s, px_bo_n, Bool.cond_decide, cond_true, cond_false, ite_not, Bool.and_true, if_true, if_false, not_true_eq_false, not_false_eq_true, i10, eq_self, decide_true, decide_false, Bool.or_true, Bool.true_or, Bool.or_false, Bool.false_or, Bool.false_eq_true, nI_ltI, if_neg, eX5_next_38_138]
    rfl
  · rw [if_neg h0]
    obtain ⟨t1, t2⟩ := hT.2 b (by omega)
    have st : px_run (px_mk (kX5_next (px_ex px_tab (d + 2)))) 41 ([some (Value.ref (37)), some (Value.int (nI b))], [], (hp (M) (J) (R) (38) (43) nL xs (D))) = px_run (px_mk (kX5_next (px_ex px_tab (d + 2)))) 67 ([some (Value.ref (37)), some (Value.int (nI b))], [], (hp (px_uR M 37 (upd (upd (M 37) 4 (nI b)) 5 (nI b))) (J) (R) (38) (43) nL xs (D))) := by
      rw [eX5_next_38_41, hT.1]
      simp (disch := omega) only [px_bd_s, px_psh_s, px_psh_n, px_vb_s, px_ib_s, px_wb_s, px_bo_s, px_bo_n, Bool.cond_decide, cond_true, cond_false, ite_not, Bool.and_true, if_true, if_false, not_true_eq_false, not_false_eq_true, i10, eq_self, decide_true, decide_false, Bool.or_true, Bool.true_or, Bool.or_false, Bool.false_or, Bool.false_eq_true, nI_ltI, if_pos]
    rw [st, eX5_next_38_67]
    have e48 : px_uR M 37 (upd (upd (M 37) 4 (nI b)) 5 (nI b)) 48 b = nI (T b) := t2
    simp (disch := omega) only [px_bd_s, px_psh_s, px_psh_n, px_vb_s, px_ib_s, px_wb_s, px_bo_s, px_bo_n, Bool.cond_decide, cond_true, cond_false, ite_not, Bool.and_true, if_true, if_false, not_true_eq_false, not_false_eq_true, i10, eq_self, decide_true, decide_false, Bool.or_true, Bool.true_or, Bool.or_false, Bool.false_or, Bool.false_eq_true, px_inbT, nI_clamp, e48, c_isLet_38 _ _ _ _ _ _ _ t1]
    by_cases h1 : isL T b = true
    · have h1' : 97 ≤ T b ∧ T b ≤ 122 := of_decide_eq_true h1
      rw [if_pos h1]
      obtain ⟨M1, q1, q2, q3⟩ := c_word_38 d J R nL xs D (b := b) hn (n - b) b (px_uR M 37 (upd (upd (M 37) 4 (nI b)) 5 (nI b))) (by omega) (Nat.le_refl _) (ckb.ct hT) rfl rfl
      refine ⟨M1, ?_, ckb.tr q2, q3⟩
      simp only [px_bd_s, px_psh_s, px_psh_n, px_vb_s, px_ib_s, px_wb_s, px_bo_s, px_bo_n, Bool.cond_decide, cond_true, cond_false, ite_not, Bool.and_true, if_true, if_false, not_true_eq_false, not_false_eq_true, i10, eq_self, decide_true, decide_false, Bool.or_true, Bool.true_or, Bool.or_false, Bool.false_or, Bool.false_eq_true, h1', and_self, eX5_next_38_67_5, q1, eX5_next_38_67_8, eX5_next_38_138]
    · have h1' : ¬ (97 ≤ T b ∧ T b ≤ 122) := fun q => h1 (decide_eq_true q)
      rw [if_neg h1]
      have e1 : px_p (kX5_next (px_ex px_tab (d + 2))) 67 5 ([some (Value.ref (37)), some (Value.int (nI b))], [Value.int (0)], (hp (px_uR M 37 (upd (upd (M 37) 4 (nI b)) 5 (nI b))) (J) (R) (38) (43) nL xs (D))) = px_bd (px_ex px_tab (d + 2) 63 [Value.int (nI (T b))] (hp (px_uR M 37 (upd (upd (M 37) 4 (nI b)) 5 (nI b))) (J) (R) (38) (43) nL xs (D))) (fun v G1 => px_p (kX5_next (px_ex px_tab (d + 2))) 86 5 ([some (.ref 37), some (.int (nI b))], px_psh v [], G1)) := by
        rw [eX5_next_38_67_5]
        simp (disch := omega) only [px_bd_s, px_psh_s, px_psh_n, px_vb_s, px_ib_s, px_wb_s, px_bo_s, px_bo_n, Bool.cond_decide, cond_true, cond_false, ite_not, Bool.and_true, if_true, if_false, not_true_eq_false, not_false_eq_true, i10, eq_self, decide_true, decide_false, Bool.or_true, Bool.true_or, Bool.or_false, Bool.false_or, Bool.false_eq_true, eX5_next_38_86, px_inbT, nI_clamp, e48]
      rw [if_neg h1', e1]
      simp (disch := omega) only [px_bd_s, px_psh_s, px_psh_n, px_vb_s, px_ib_s, px_wb_s, px_bo_s, px_bo_n, Bool.cond_decide, cond_true, cond_false, ite_not, Bool.and_true, if_true, if_false, not_true_eq_false, not_false_eq_true, i10, eq_self, decide_true, decide_false, Bool.or_true, Bool.true_or, Bool.or_false, Bool.false_or, Bool.false_eq_true, c_isDig_38 _ _ _ _ _ _ _ t1]
      by_cases h2 : isD T b = true
      · have h2' : 48 ≤ T b ∧ T b ≤ 57 := of_decide_eq_true h2
        rw [if_pos h2]
        obtain ⟨M1, q1, q2, q3⟩ := c_num_38 d J R nL xs D (b := b) hn (by omega) (px_uR M 37 (upd (upd (M 37) 4 (nI b)) 5 (nI b))) (ckb.ct hT) rfl rfl
        refine ⟨M1, ?_, ckb.tr q2, q3⟩
        simp only [px_bd_s, px_psh_s, px_psh_n, px_vb_s, px_ib_s, px_wb_s, px_bo_s, px_bo_n, Bool.cond_decide, cond_true, cond_false, ite_not, Bool.and_true, if_true, if_false, not_true_eq_false, not_false_eq_true, i10, eq_self, decide_true, decide_false, Bool.or_true, Bool.true_or, Bool.or_false, Bool.false_or, Bool.false_eq_true, h2', and_self, eX5_next_38_86_5, q1, eX5_next_38_86_8, eX5_next_38_138]
      · have h2' : ¬ (48 ≤ T b ∧ T b ≤ 57) := fun q => h2 (decide_eq_true q)
        rw [if_neg h2]
        have ev : (if isB T b = true then 1 else if T b = 40 ∨ T b = 41 ∨ T b = 42 ∨ T b = 43 ∨ T b = 45 ∨ T b = 59 ∨ T b = 60 ∨ T b = 61 then T b else 1) = if T b = 40 ∨ T b = 41 ∨ T b = 42 ∨ T b = 43 ∨ T b = 45 ∨ T b = 59 ∨ T b = 60 ∨ T b = 61 then T b else 1 := by
          by_cases hB : isB T b = true
          · have := of_decide_eq_true hB
            rw [if_pos hB, if_neg (by omega)]
          · rw [if_neg hB]
        rw [ev]
        have tk23 : ∀ w : Nat, (w = 1 ∨ 40 ≤ w) → (w = 2 ∨ w = 3) → False := fun w h3 h4 => by omega
        by_cases hS : T b = 40 ∨ T b = 41 ∨ T b = 42 ∨ T b = 43 ∨ T b = 45 ∨ T b = 59 ∨ T b = 60 ∨ T b = 61
        · rw [if_pos hS]
          have ck := (ckb.u 6 (by decide) (nI (T b))).u 5 (by decide) (nI (b + 1))
          rw [px_uR_2, px_uR_2] at ck
          refine ⟨_, ?_, ck, rfl, rfl, rfl, fun q => (tk23 (T b) (by omega) q).elim⟩
          rw [if_neg h2', eX5_next_38_86_5]
          simp (disch := omega) only [px_bd_s, px_psh_s, px_psh_n, px_vb_s, px_ib_s, px_wb_s, px_bo_s, px_bo_n, Bool.cond_decide, cond_true, cond_false, ite_not, Bool.and_true, if_true, if_false, not_true_eq_false, not_false_eq_true, i10, eq_self, decide_true, decide_false, Bool.or_true, Bool.true_or, Bool.or_false, Bool.false_or, Bool.false_eq_true, eX5_next_38_105, px_inbT, nI_clamp, e48, c_isSgn_38 _ _ _ _ _ _ _ t1, hS, eX5_next_38_105_6, eX5_next_38_128, eX5_next_38_138, zp1]
          rfl
        · rw [if_neg hS]
          have ck := (ckb.u 6 (by decide) 1).u 5 (by decide) (nI (b + 1))
          rw [px_uR_2, px_uR_2] at ck
          refine ⟨_, ?_, ck, rfl, rfl, rfl, fun q => (tk23 1 (Or.inl rfl) q).elim⟩
          rw [if_neg h2', eX5_next_38_86_5]
          simp (disch := omega) only [px_bd_s, px_psh_s, px_psh_n, px_vb_s, px_ib_s, px_wb_s, px_bo_s, px_bo_n, Bool.cond_decide, cond_true, cond_false, ite_not, Bool.and_true, if_true, if_false, not_true_eq_false, not_false_eq_true, i10, eq_self, decide_true, decide_false, Bool.or_true, Bool.true_or, Bool.or_false, Bool.false_or, Bool.false_eq_true, eX5_next_38_105, px_inbT, nI_clamp, e48, c_isSgn_38 _ _ _ _ _ _ _ t1, hS, eX5_next_38_105_6, eX5_next_38_127, eX5_next_38_128, eX5_next_38_138, zp1]
          rfl
theorem c_num_l_43 {T : Nat → Nat} {n b : Nat} (hn : n ≤ 160) : ∀ (g a : Nat) (M : Nat → Nat → Int32), a + g = n → b ≤ a → CT T n M → M 37 4 = nI b → M 37 5 = nI a → M 37 7 = nv T b (a - b) → ∃ M1, px_run (px_mk (kX5_takeNumber (px_ex px_tab (d + 1)))) 5 ([some (Value.ref (37))], [], (hp (M) (J) (R) (43) (38) nL xs (D))) = some (none, (hp (M1) (J) (R) (43) (38) nL xs (D))) ∧ CK M M1 ∧ TKc b (scn (isD T) g a, (if scn (isD T) g a - b ≤ 4 then 2 else 1), nv T b (scn (isD T) g a - b)) M1 := by
  have fin : ∀ (a : Nat) (M : Nat → Nat → Int32), b ≤ a → a ≤ 160 → M 37 4 = nI b → M 37 5 = nI a → M 37 7 = nv T b (a - b) → ∃ M1, px_run (px_mk (kX5_takeNumber (px_ex px_tab (d + 1)))) 68 ([some (Value.ref (37))], [], (hp (M) (J) (R) (43) (38) nL xs (D))) = some (none, (hp (M1) (J) (R) (43) (38) nL xs (D))) ∧ CK M M1 ∧ TKc b (a, (if a - b ≤ 4 then 2 else 1), nv T b (a - b)) M1 := by
    intro a M hb ha h4 h5 h7
    have x : (nI (a - b) ≤ (4 : Int32)) ↔ a - b ≤ 4 := nI_leI (b := 4) (by omega) (by decide)
    by_cases h : a - b ≤ 4
    · refine ⟨px_uR M 37 (upd (M 37) 6 2), ?_, (CK.rf M).u 6 (by decide) _, h4, h5, ?_, fun _ => h7⟩
      · rw [eX5_takeNumber_43_68, h4, h5, pk_sub hb]
        simp only [px_bd_s, px_psh_s, px_psh_n, px_vb_s, px_ib_s, px_wb_s, px_bo_s, px_bo_n, Bool.cond_decide, cond_true, cond_false, ite_not, Bool.and_true, if_true, if_false, not_true_eq_false, not_false_eq_true, i10, eq_self, decide_true, decide_false, Bool.or_true, Bool.true_or, Bool.or_false, Bool.false_or, Bool.false_eq_true, x, h, eX5_takeNumber_43_86, eX5_takeNumber_43_87]
      · show upd (M 37) 6 2 6 = nI (if a - b ≤ 4 then 2 else 1)
        rw [if_pos h]
        exact pk_us
    · refine ⟨px_uR M 37 (upd (M 37) 6 1), ?_, (CK.rf M).u 6 (by decide) _, h4, h5, ?_, fun _ => h7⟩
      · rw [eX5_takeNumber_43_68, h4, h5, pk_sub hb]
        simp only [px_bd_s, px_psh_s, px_psh_n, px_vb_s, px_ib_s, px_wb_s, px_bo_s, px_bo_n, Bool.cond_decide, cond_true, cond_false, ite_not, Bool.and_true, if_true, if_false, not_true_eq_false, not_false_eq_true, i10, eq_self, decide_true, decide_false, Bool.or_true, Bool.true_or, Bool.or_false, Bool.false_or, Bool.false_eq_true, x, h, eX5_takeNumber_43_87]
      · show upd (M 37) 6 1 6 = nI (if a - b ≤ 4 then 2 else 1)
        rw [if_neg h]
        exact pk_us
  intro g
  induction g with
  | zero =>
    intro a M hg hb hT h4 h5 h7
    obtain ⟨M1, q1, q2⟩ := fin a M hb (by omega) h4 h5 h7
    refine ⟨M1, ?_, q2⟩
    refine Eq.trans ?_ q1
    rw [eX5_takeNumber_43_5, hT.1, h5]
    simp (disch := omega) only [px_bd_s, px_psh_s, px_psh_n, px_vb_s, px_ib_s, px_wb_s, px_bo_s, px_bo_n, Bool.cond_decide, cond_true, cond_false, ite_not, Bool.and_true, if_true, if_false, not_true_eq_false, not_false_eq_true, i10, eq_self, decide_true, decide_false, Bool.or_true, Bool.true_or, Bool.or_false, Bool.false_or, Bool.false_eq_true, nI_leI, if_pos]
  | succ g ih =>
    intro a M hg hb hT h4 h5 h7
    obtain ⟨t1, t2⟩ := hT.2 a (by omega)
    rw [scn_s]
    by_cases hd : isD T a = true
    · rw [if_pos hd]
      have hd' : 48 ≤ T a ∧ T a ≤ 57 := of_decide_eq_true hd
      have ck : CK M (px_uR M 37 (upd (upd (M 37) 7 (10 * M 37 7 + M 48 a - 48)) 5 (nI (a + 1)))) := by
        have := ((CK.rf M).u 7 (by decide) (10 * M 37 7 + M 48 a - 48)).u 5 (by decide) (nI (a + 1))
        rw [px_uR_2] at this
        exact this
      obtain ⟨M1, q1, q2, q3⟩ := ih (a + 1) (px_uR M 37 (upd (upd (M 37) 7 (10 * M 37 7 + M 48 a - 48)) 5 (nI (a + 1)))) (by omega) (by omega) (ck.ct hT) h4 rfl (by
        show 10 * M 37 7 + M 48 a - 48 = nv T b (a + 1 - b)
        rw [show a + 1 - b = (a - b) + 1 from by omega, nv_s, h7, t2, show b + (a - b) = a from by omega])
      refine ⟨M1, ?_, ck.tr q2, q3⟩
      refine Eq.trans ?_ q1
      rw [eX5_takeNumber_43_5, hT.1, h5]
      simp (disch := omega) only [px_bd_s, px_psh_s, px_psh_n, px_vb_s, px_ib_s, px_wb_s, px_bo_s, px_bo_n, Bool.cond_decide, cond_true, cond_false, ite_not, Bool.and_true, if_true, if_false, not_true_eq_false, not_false_eq_true, i10, eq_self, decide_true, decide_false, Bool.or_true, Bool.true_or, Bool.or_false, Bool.false_or, Bool.false_eq_true, nI_leI, if_neg, px_inbT, nI_clamp, t2, c_isDig_43 _ _ _ _ _ _ _ t1, hd', and_self, eX5_takeNumber_43_5_11, h5, zp1]
    · rw [if_neg hd]
      have hd' : ¬ (48 ≤ T a ∧ T a ≤ 57) := fun q => hd (decide_eq_true q)
      obtain ⟨M1, q1, q2⟩ := fin a M hb (by omega) h4 h5 h7
      refine ⟨M1, ?_, q2⟩
      refine Eq.trans ?_ q1
      rw [eX5_takeNumber_43_5, hT.1, h5]
      simp (disch := omega) only [px_bd_s, px_psh_s, px_psh_n, px_vb_s, px_ib_s, px_wb_s, px_bo_s, px_bo_n, Bool.cond_decide, cond_true, cond_false, ite_not, Bool.and_true, if_true, if_false, not_true_eq_false, not_false_eq_true, i10, eq_self, decide_true, decide_false, Bool.or_true, Bool.true_or, Bool.or_false, Bool.false_or, Bool.false_eq_true, nI_leI, if_neg, px_inbT, nI_clamp, t2, c_isDig_43 _ _ _ _ _ _ _ t1, hd', eX5_takeNumber_43_5_11]
theorem c_num_43 {T : Nat → Nat} {n b : Nat} (hn : n ≤ 160) (hb : b ≤ n) (M : Nat → Nat → Int32) (hT : CT T n M) (h4 : M 37 4 = nI b) (h5 : M 37 5 = nI b) : ∃ M1, px_ex px_tab (d + 2) 65 [Value.ref (37)] (hp (M) (J) (R) (43) (38) nL xs (D)) = some (none, (hp (M1) (J) (R) (43) (38) nL xs (D))) ∧ CK M M1 ∧ TKc b (scn (isD T) (n - b) b, (if scn (isD T) (n - b) b - b ≤ 4 then 2 else 1), nv T b (scn (isD T) (n - b) b - b)) M1 := by
  have ck := (CK.rf M).u 7 (by decide) 0
  obtain ⟨M1, q1, q2, q3⟩ := c_num_l_43 d J R nL xs D hn (n - b) b (px_uR M 37 (upd (M 37) 7 0)) (by omega) (Nat.le_refl _) (ck.ct hT) h4 h5 (by
    rw [Nat.sub_self]
    rfl)
  refine ⟨M1, ?_, ck.tr q2, q3⟩
  rw [xX5_takeNumber, eX5_takeNumber_43_0]
  exact q1
theorem c_hand_g_43 {T ch : Nat → Nat} {n b l f L : Nat} (hn : n ≤ 160) (hb : b + l ≤ n) (hL : L ≤ 5) (hc : ∀ j, j < L → ch j < 256) (M : Nat → Nat → Int32) (hT : CT T n M) (h4 : M 37 4 = nI b) (h5 : M 37 5 = nI (b + l)) (H0 : px_p (kX5_isAtHand (px_ex px_tab d)) 0 1 ([some (Value.ref (37)), some (Value.ref (f)), none], [Value.ref (f)], (hp (M) (J) (R) (43) (38) nL xs (D))) = px_p (kX5_isAtHand (px_ex px_tab d)) 0 2 ([some (Value.ref (37)), some (Value.ref (f)), none], [Value.int (nI L)], (hp (M) (J) (R) (43) (38) nL xs (D)))) (H1 : ∀ v, px_p (kX5_isAtHand (px_ex px_tab d)) 20 2 ([some (Value.ref (37)), some (Value.ref (f)), some (Value.int (v))], [Value.ref (f), Value.int (v)], (hp (M) (J) (R) (43) (38) nL xs (D))) = px_p (kX5_isAtHand (px_ex px_tab d)) 20 3 ([some (Value.ref (37)), some (Value.ref (f)), some (Value.int (v))], [Value.int (nI L), Value.int (v)], (hp (M) (J) (R) (43) (38) nL xs (D)))) (H2 : ∀ j, j < L → px_p (kX5_isAtHand (px_ex px_tab d)) 20 6 ([some (Value.ref (37)), some (Value.ref (f)), some (Value.int (nI j))], [Value.int (nI j), Value.ref (f)], (hp (M) (J) (R) (43) (38) nL xs (D))) = px_p (kX5_isAtHand (px_ex px_tab d)) 20 7 ([some (Value.ref (37)), some (Value.ref (f)), some (Value.int (nI j))], [Value.int (nI (ch j))], (hp (M) (J) (R) (43) (38) nL xs (D)))) : px_ex px_tab (d + 1) 67 [Value.ref (37), Value.ref (f)] (hp (M) (J) (R) (43) (38) nL xs (D)) = some (some (Value.int (if (decide (L = l) && eqr T ch b L 0) = true then 1 else 0)), (hp (M) (J) (R) (43) (38) nL xs (D))) := by
  have lp : L = l → ∀ g j, j + g = L → px_run (px_mk (kX5_isAtHand (px_ex px_tab d))) 20 ([some (Value.ref (37)), some (Value.ref (f)), some (Value.int (nI j))], [], (hp (M) (J) (R) (43) (38) nL xs (D))) = some (some (Value.int (if eqr T ch b g j = true then 1 else 0)), (hp (M) (J) (R) (43) (38) nL xs (D))) := by
    intro hl g
    induction g with
    | zero =>
      intro j hj
      rw [eX5_isAtHand_43_20, H1, eX5_isAtHand_43_20_3]
      simp (disch := omega) only [px_bd_s, px_psh_s, px_psh_n, px_vb_s, px_ib_s, px_wb_s, px_bo_s, px_bo_n, Bool.cond_decide, cond_true, cond_false, ite_not, Bool.and_true, if_true, if_false, not_true_eq_false, not_false_eq_true, i10, eq_self, decide_true, decide_false, Bool.or_true, Bool.true_or, Bool.or_false, Bool.false_or, Bool.false_eq_true, nI_leI, if_pos, eX5_isAtHand_43_55]
      rfl
    | succ g ih =>
      intro j hj
      obtain ⟨t1, t2⟩ := hT.2 (b + j) (by omega)
      have x : (nI (ch j) = nI (T (b + j))) ↔ T (b + j) = ch j := by
        rw [nI_eq (by have := hc j (by omega); omega) (by omega)]
        exact eq_comm
      have k := ih (j + 1) (by omega)
      rw [eqr_s, eX5_isAtHand_43_20, H1, eX5_isAtHand_43_20_3]
      simp (disch := omega) only [px_bd_s, px_psh_s, px_psh_n, px_vb_s, px_ib_s, px_wb_s, px_bo_s, px_bo_n, Bool.cond_decide, cond_true, cond_false, ite_not, Bool.and_true, if_true, if_false, not_true_eq_false, not_false_eq_true, i10, eq_self, decide_true, decide_false, Bool.or_true, Bool.true_or, Bool.or_false, Bool.false_or, Bool.false_eq_true, nI_leI, if_neg, H2 j (by omega), eX5_isAtHand_43_20_7, h4, nI_add, px_inbT, nI_clamp, t2, x]
      by_cases h : T (b + j) = ch j
      · simp only [px_bd_s, px_psh_s, px_psh_n, px_vb_s, px_ib_s, px_wb_s, px_bo_s, px_bo_n, Bool.cond_decide, cond_true, cond_false, ite_not, Bool.and_true, if_true, if_false, not_true_eq_false, not_false_eq_true, i10, eq_self, decide_true, decide_false, Bool.or_true, Bool.true_or, Bool.or_false, Bool.false_or, Bool.false_eq_true, h, eX5_isAtHand_43_49, zp1, k, Bool.true_and]
      · simp only [px_bd_s, px_psh_s, px_psh_n, px_vb_s, px_ib_s, px_wb_s, px_bo_s, px_bo_n, Bool.cond_decide, cond_true, cond_false, ite_not, Bool.and_true, if_true, if_false, not_true_eq_false, not_false_eq_true, i10, eq_self, decide_true, decide_false, Bool.or_true, Bool.true_or, Bool.or_false, Bool.false_or, Bool.false_eq_true, h, Bool.false_and]
  rw [xX5_isAtHand, eX5_isAtHand_43_0, H0, eX5_isAtHand_43_0_2, h4, h5, pk_sub (by omega), show b + l - b = l from by omega]
  have x : (nI L = nI l) ↔ L = l := nI_eq (by omega) (by omega)
  by_cases h : L = l
  · simp only [px_bd_s, px_psh_s, px_psh_n, px_vb_s, px_ib_s, px_wb_s, px_bo_s, px_bo_n, Bool.cond_decide, cond_true, cond_false, ite_not, Bool.and_true, if_true, if_false, not_true_eq_false, not_false_eq_true, i10, eq_self, decide_true, decide_false, Bool.or_true, Bool.true_or, Bool.or_false, Bool.false_or, Bool.false_eq_true, x, h, eX5_isAtHand_43_18, Bool.true_and]
    have := lp h L 0 (by omega)
    rw [h] at this
    exact this
  · simp only [px_bd_s, px_psh_s, px_psh_n, px_vb_s, px_ib_s, px_wb_s, px_bo_s, px_bo_n, Bool.cond_decide, cond_true, cond_false, ite_not, Bool.and_true, if_true, if_false, not_true_eq_false, not_false_eq_true, i10, eq_self, decide_true, decide_false, Bool.or_true, Bool.true_or, Bool.or_false, Bool.false_or, Bool.false_eq_true, x, h, Bool.false_and]
theorem c_hand_43 {T : Nat → Nat} {n b l i : Nat} (hn : n ≤ 160) (hb : b + l ≤ n) (hi : i < 10) (M : Nat → Nat → Int32) (hT : CT T n M) (h4 : M 37 4 = nI b) (h5 : M 37 5 = nI (b + l)) : px_ex px_tab (d + 1) 67 [Value.ref (37), Value.ref (3 + i)] (hp (M) (J) (R) (43) (38) nL xs (D)) = some (some (Value.int (if mtch T b l i = true then 1 else 0)), (hp (M) (J) (R) (43) (38) nL xs (D))) := by
  unfold mtch
  rcases (by omega : i = 0 ∨ i = 1 ∨ i = 2 ∨ i = 3 ∨ i = 4 ∨ i = 5 ∨ i = 6 ∨ i = 7 ∨ i = 8 ∨ i = 9) with rfl | rfl | rfl | rfl | rfl | rfl | rfl | rfl | rfl | rfl
  · exact c_hand_g_43 d J R nL xs D (f := 3) (L := 4) hn hb (by decide) (by decide) M hT h4 h5 rfl (fun v => rfl) (fun j hj => by rcases (by omega : j = 0 ∨ j = 1 ∨ j = 2 ∨ j = 3) with rfl | rfl | rfl | rfl <;> rfl)
  · exact c_hand_g_43 d J R nL xs D (f := 4) (L := 4) hn hb (by decide) (by decide) M hT h4 h5 rfl (fun v => rfl) (fun j hj => by rcases (by omega : j = 0 ∨ j = 1 ∨ j = 2 ∨ j = 3) with rfl | rfl | rfl | rfl <;> rfl)
  · exact c_hand_g_43 d J R nL xs D (f := 5) (L := 5) hn hb (by decide) (by decide) M hT h4 h5 rfl (fun v => rfl) (fun j hj => by rcases (by omega : j = 0 ∨ j = 1 ∨ j = 2 ∨ j = 3 ∨ j = 4) with rfl | rfl | rfl | rfl | rfl <;> rfl)
  · exact c_hand_g_43 d J R nL xs D (f := 6) (L := 1) hn hb (by decide) (by decide) M hT h4 h5 rfl (fun v => rfl) (fun j hj => by rcases (by omega : j = 0) with rfl; rfl)
  · exact c_hand_g_43 d J R nL xs D (f := 7) (L := 1) hn hb (by decide) (by decide) M hT h4 h5 rfl (fun v => rfl) (fun j hj => by rcases (by omega : j = 0) with rfl; rfl)
  · exact c_hand_g_43 d J R nL xs D (f := 8) (L := 3) hn hb (by decide) (by decide) M hT h4 h5 rfl (fun v => rfl) (fun j hj => by rcases (by omega : j = 0 ∨ j = 1 ∨ j = 2) with rfl | rfl | rfl <;> rfl)
  · exact c_hand_g_43 d J R nL xs D (f := 9) (L := 3) hn hb (by decide) (by decide) M hT h4 h5 rfl (fun v => rfl) (fun j hj => by rcases (by omega : j = 0 ∨ j = 1 ∨ j = 2) with rfl | rfl | rfl <;> rfl)
  · exact c_hand_g_43 d J R nL xs D (f := 10) (L := 2) hn hb (by decide) (by decide) M hT h4 h5 rfl (fun v => rfl) (fun j hj => by rcases (by omega : j = 0 ∨ j = 1) with rfl | rfl <;> rfl)
  · exact c_hand_g_43 d J R nL xs D (f := 11) (L := 3) hn hb (by decide) (by decide) M hT h4 h5 rfl (fun v => rfl) (fun j hj => by rcases (by omega : j = 0 ∨ j = 1 ∨ j = 2) with rfl | rfl | rfl <;> rfl)
  · exact c_hand_g_43 d J R nL xs D (f := 12) (L := 3) hn hb (by decide) (by decide) M hT h4 h5 rfl (fun v => rfl) (fun j hj => by rcases (by omega : j = 0 ∨ j = 1 ∨ j = 2) with rfl | rfl | rfl <;> rfl)
theorem c_wordAt_43 {i : Nat} (hi : i < 10) (M : Nat → Nat → Int32) : px_ex px_tab (d + 1) 68 [Value.int (nI i)] (hp (M) (J) (R) (43) (38) nL xs (D)) = some (some (Value.ref (3 + i)), (hp (M) (J) (R) (43) (38) nL xs (D))) := by
  rw [xX5_wordAt, eX5_wordAt_43_0, eX5_wordAt_43_52, eX5_wordAt_43_55, eX5_wordAt_43_58, eX5_wordAt_43_61, eX5_wordAt_43_64, eX5_wordAt_43_67, eX5_wordAt_43_70, eX5_wordAt_43_73, eX5_wordAt_43_76, eX5_wordAt_43_79]
  rcases (by omega : i = 0 ∨ i = 1 ∨ i = 2 ∨ i = 3 ∨ i = 4 ∨ i = 5 ∨ i = 6 ∨ i = 7 ∨ i = 8 ∨ i = 9) with rfl | rfl | rfl | rfl | rfl | rfl | rfl | rfl | rfl | rfl <;> rfl
theorem c_wd_l_43 {T : Nat → Nat} {n b l : Nat} (hn : n ≤ 160) (hb : b + l ≤ n) : ∀ (g i : Nat) (M : Nat → Nat → Int32), i + g = 10 → CT T n M → TKc b (b + l, (wtk T b l i).1, nI (wtk T b l i).2) M → ∃ M1, px_run (px_mk (kX5_takeWord (px_ex px_tab (d + 1)))) 46 ([some (Value.ref (37)), some (Value.int (nI i))], [], (hp (M) (J) (R) (43) (38) nL xs (D))) = some (none, (hp (M1) (J) (R) (43) (38) nL xs (D))) ∧ CK M M1 ∧ TKc b (b + l, (wtk T b l 10).1, nI (wtk T b l 10).2) M1
  | 0, i, M, hg, hT, hK => by
    rw [show i = 10 from by omega] at hK ⊢
    refine ⟨M, ?_, CK.rf M, hK⟩
    rw [eX5_takeWord_43_46]
    simp only [px_bd_s, px_psh_s, px_psh_n, px_vb_s, px_ib_s, px_wb_s, px_bo_s, px_bo_n, Bool.cond_decide, cond_true, cond_false, ite_not, Bool.and_true, if_true, if_false, not_true_eq_false, not_false_eq_true, i10, eq_self, decide_true, decide_false, Bool.or_true, Bool.true_or, Bool.or_false, Bool.false_or, Bool.false_eq_true, show (10 : Int32) ≤ nI 10 from by decide, eX5_takeWord_43_95]
  | g + 1, i, M, hg, hT, hK => by
    have x : ¬ (10 : Int32) ≤ nI i := fun q => by
      have := (nI_leI (a := 10) (by decide) (by omega)).mp q
      omega
    have hh := c_hand_43 d J R nL xs D hn hb (i := i) (by omega) M hT hK.1 hK.2.1
    have ww := c_wordAt_43 d J R nL xs D (i := i) (by omega) M
    by_cases hm : mtch T b l i = true
    · have ew : wtk T b l (i + 1) = (if i < 6 then 3 else 4 + i, i) := by rw [wtk_s, if_pos hm]
      rw [if_pos hm] at hh
      have ck : CK M (px_uR M 37 (upd (upd (M 37) 6 (nI (if i < 6 then 3 else 4 + i))) 7 (nI i))) := by
        have := ((CK.rf M).u 6 (by decide) (nI (if i < 6 then 3 else 4 + i))).u 7 (by decide) (nI i)
        rw [px_uR_2] at this
        exact this
      obtain ⟨M1, q1, q2, q3⟩ := c_wd_l_43 hn hb g (i + 1) (px_uR M 37 (upd (upd (M 37) 6 (nI (if i < 6 then 3 else 4 + i))) 7 (nI i))) (by omega) (ck.ct hT) ⟨hK.1, hK.2.1, by rw [ew]; rfl, fun _ => by rw [ew]; rfl⟩
      refine ⟨M1, ?_, ck.tr q2, q3⟩
      refine Eq.trans ?_ q1
      rw [eX5_takeWord_43_46]
      have x6 : ((6 : Int32) ≤ nI i) ↔ 6 ≤ i := nI_leI (a := 6) (by decide) (by omega)
      by_cases h6 : 6 ≤ i
      · have e6 : (10 : Int32) + nI i - 6 = nI (4 + i) := by
          rw [show (10 : Int32) + nI i = nI (10 + i) from nI_add 10 i, show nI (10 + i) - 6 = nI (10 + i - 6) from pk_sub (b := 6) (by omega), show 10 + i - 6 = 4 + i from by omega]
        rw [if_neg (show ¬ i < 6 by omega)]
        simp only [px_bd_s, px_psh_s, px_psh_n, px_vb_s, px_ib_s, px_wb_s, px_bo_s, px_bo_n, Bool.cond_decide, cond_true, cond_false, ite_not, Bool.and_true, if_true, if_false, not_true_eq_false, not_false_eq_true, i10, eq_self, decide_true, decide_false, Bool.or_true, Bool.true_or, Bool.or_false, Bool.false_or, Bool.false_eq_true, x, ww, eX5_takeWord_43_46_6, hh, eX5_takeWord_43_46_7, x6, h6, eX5_takeWord_43_74, e6, eX5_takeWord_43_81, eX5_takeWord_43_89, zp1]
      · rw [if_pos (show i < 6 by omega)]
        simp only [px_bd_s, px_psh_s, px_psh_n, px_vb_s, px_ib_s, px_wb_s, px_bo_s, px_bo_n, Bool.cond_decide, cond_true, cond_false, ite_not, Bool.and_true, if_true, if_false, not_true_eq_false, not_false_eq_true, i10, eq_self, decide_true, decide_false, Bool.or_true, Bool.true_or, Bool.or_false, Bool.false_or, Bool.false_eq_true, x, ww, eX5_takeWord_43_46_6, hh, eX5_takeWord_43_46_7, x6, h6, eX5_takeWord_43_81, eX5_takeWord_43_89, zp1]
        rfl
    · have ew : wtk T b l (i + 1) = wtk T b l i := by rw [wtk_s, if_neg hm]
      rw [if_neg hm] at hh
      obtain ⟨M1, q1, q2, q3⟩ := c_wd_l_43 hn hb g (i + 1) M (by omega) hT (by rw [ew]; exact hK)
      refine ⟨M1, ?_, q2, q3⟩
      refine Eq.trans ?_ q1
      rw [eX5_takeWord_43_46]
      simp only [px_bd_s, px_psh_s, px_psh_n, px_vb_s, px_ib_s, px_wb_s, px_bo_s, px_bo_n, Bool.cond_decide, cond_true, cond_false, ite_not, Bool.and_true, if_true, if_false, not_true_eq_false, not_false_eq_true, i10, eq_self, decide_true, decide_false, Bool.or_true, Bool.true_or, Bool.or_false, Bool.false_or, Bool.false_eq_true, x, ww, eX5_takeWord_43_46_6, hh, eX5_takeWord_43_46_7, eX5_takeWord_43_89, zp1]
theorem c_word_43 {T : Nat → Nat} {n b : Nat} (hn : n ≤ 160) : ∀ (g a : Nat) (M : Nat → Nat → Int32), a + g = n → b ≤ a → CT T n M → M 37 4 = nI b → M 37 5 = nI a → ∃ M1, px_ex px_tab (d + 2) 66 [Value.ref (37)] (hp (M) (J) (R) (43) (38) nL xs (D)) = some (none, (hp (M1) (J) (R) (43) (38) nL xs (D))) ∧ CK M M1 ∧ TKc b (scn (isL T) g a, (wtk T b (scn (isL T) g a - b) 10).1, nI (wtk T b (scn (isL T) g a - b) 10).2) M1 := by
  have fin : ∀ (a : Nat) (M : Nat → Nat → Int32), b ≤ a → a ≤ n → CT T n M → M 37 4 = nI b → M 37 5 = nI a → ∃ M1, px_run (px_mk (kX5_takeWord (px_ex px_tab (d + 1)))) 39 ([some (Value.ref (37)), none], [], (hp (M) (J) (R) (43) (38) nL xs (D))) = some (none, (hp (M1) (J) (R) (43) (38) nL xs (D))) ∧ CK M M1 ∧ TKc b (a, (wtk T b (a - b) 10).1, nI (wtk T b (a - b) 10).2) M1 := by
    intro a M hb ha hT h4 h5
    have ck := (CK.rf M).u 6 (by decide) 1
    obtain ⟨M1, q1, q2, q3⟩ := c_wd_l_43 d J R nL xs D (l := a - b) (b := b) hn (by omega) 10 0 (px_uR M 37 (upd (M 37) 6 1)) (by omega) (ck.ct hT) ⟨h4, by rw [show b + (a - b) = a from by omega]; exact h5, rfl, fun q => by
      have q' : (1 : Nat) = 2 ∨ (1 : Nat) = 3 := q
      omega⟩
    rw [show b + (a - b) = a from by omega] at q3
    refine ⟨M1, ?_, ck.tr q2, q3⟩
    rw [eX5_takeWord_43_39]
    exact q1
  intro g
  induction g with
  | zero =>
    intro a M hg hb hT h4 h5
    obtain ⟨M1, q1, q2⟩ := fin a M hb (by omega) hT h4 h5
    refine ⟨M1, ?_, q2⟩
    rw [xX5_takeWord]
    refine Eq.trans ?_ q1
    rw [eX5_takeWord_43_0, hT.1, h5]
    simp (disch := omega) only [px_bd_s, px_psh_s, px_psh_n, px_vb_s, px_ib_s, px_wb_s, px_bo_s, px_bo_n, Bool.cond_decide, cond_true, cond_false, ite_not, Bool.and_true, if_true, if_false, not_true_eq_false, not_false_eq_true, i10, eq_self, decide_true, decide_false, Bool.or_true, Bool.true_or, Bool.or_false, Bool.false_or, Bool.false_eq_true, nI_leI, if_pos]
  | succ g ih =>
    intro a M hg hb hT h4 h5
    obtain ⟨t1, t2⟩ := hT.2 a (by omega)
    rw [scn_s]
    by_cases hd : isL T a = true
    · rw [if_pos hd]
      have hd' : 97 ≤ T a ∧ T a ≤ 122 := of_decide_eq_true hd
      have ck := (CK.rf M).u 5 (by decide) (nI (a + 1))
      obtain ⟨M1, q1, q2, q3⟩ := ih (a + 1) (px_uR M 37 (upd (M 37) 5 (nI (a + 1)))) (by omega) (by omega) (ck.ct hT) h4 rfl
      refine ⟨M1, ?_, ck.tr q2, q3⟩
      rw [xX5_takeWord] at q1 ⊢
      refine Eq.trans ?_ q1
      rw [eX5_takeWord_43_0, hT.1, h5]
      simp (disch := omega) only [px_bd_s, px_psh_s, px_psh_n, px_vb_s, px_ib_s, px_wb_s, px_bo_s, px_bo_n, Bool.cond_decide, cond_true, cond_false, ite_not, Bool.and_true, if_true, if_false, not_true_eq_false, not_false_eq_true, i10, eq_self, decide_true, decide_false, Bool.or_true, Bool.true_or, Bool.or_false, Bool.false_or, Bool.false_eq_true, nI_leI, if_neg, px_inbT, nI_clamp, t2, c_isLet_43 _ _ _ _ _ _ _ t1, hd', and_self, eX5_takeWord_43_0_11, h5, zp1]
    · rw [if_neg hd]
      have hd' : ¬ (97 ≤ T a ∧ T a ≤ 122) := fun q => hd (decide_eq_true q)
      obtain ⟨M1, q1, q2⟩ := fin a M hb (by omega) hT h4 h5
      refine ⟨M1, ?_, q2⟩
      rw [xX5_takeWord]
      refine Eq.trans ?_ q1
      rw [eX5_takeWord_43_0, hT.1, h5]
      simp (disch := omega) only [px_bd_s, px_psh_s, px_psh_n, px_vb_s, px_ib_s, px_wb_s, px_bo_s, px_bo_n, Bool.cond_decide, cond_true, cond_false, ite_not, Bool.and_true, if_true, if_false, not_true_eq_false, not_false_eq_true, i10, eq_self, decide_true, decide_false, Bool.or_true, Bool.true_or, Bool.or_false, Bool.false_or, Bool.false_eq_true, nI_leI, if_neg, px_inbT, nI_clamp, t2, c_isLet_43 _ _ _ _ _ _ _ t1, hd', eX5_takeWord_43_0_11]
theorem c_skp_43 {T : Nat → Nat} {n : Nat} (hn : n ≤ 160) (M : Nat → Nat → Int32) (hT : CT T n M) : ∀ (g a : Nat), a + g = n → px_run (px_mk (kX5_next (px_ex px_tab d))) 5 ([some (Value.ref (37)), some (Value.int (nI a))], [], (hp (M) (J) (R) (43) (38) nL xs (D))) = px_run (px_mk (kX5_next (px_ex px_tab d))) 41 ([some (Value.ref (37)), some (Value.int (nI (scn (isB T) g a)))], [], (hp (M) (J) (R) (43) (38) nL xs (D)))
  | 0, a, hg => by
    rw [eX5_next_43_5, hT.1]
    simp (disch := omega) only [px_bd_s, px_psh_s, px_psh_n, px_vb_s, px_ib_s, px_wb_s, px_bo_s, px_bo_n, Bool.cond_decide, cond_true, cond_false, ite_not, Bool.and_true, if_true, if_false, not_true_eq_false, not_false_eq_true, i10, eq_self, decide_true, decide_false, Bool.or_true, Bool.true_or, Bool.or_false, Bool.false_or, Bool.false_eq_true, nI_leI, if_pos]
    rfl
  | g + 1, a, hg => by
    obtain ⟨t1, t2⟩ := hT.2 a (by omega)
    have ih := c_skp_43 hn M hT g (a + 1) (by omega)
    rw [scn_s, eX5_next_43_5, hT.1]
    simp (disch := omega) only [px_bd_s, px_psh_s, px_psh_n, px_vb_s, px_ib_s, px_wb_s, px_bo_s, px_bo_n, Bool.cond_decide, cond_true, cond_false, ite_not, Bool.and_true, if_true, if_false, not_true_eq_false, not_false_eq_true, i10, eq_self, decide_true, decide_false, Bool.or_true, Bool.true_or, Bool.or_false, Bool.false_or, Bool.false_eq_true, nI_leI, if_neg, px_inbT, nI_clamp, t2, zs32, zs10]
    by_cases h1 : T a = 32
    · have hb : isB T a = true := decide_eq_true (Or.inl h1)
      simp only [px_bd_s, px_psh_s, px_psh_n, px_vb_s, px_ib_s, px_wb_s, px_bo_s, px_bo_n, Bool.cond_decide, cond_true, cond_false, ite_not, Bool.and_true, if_true, if_false, not_true_eq_false, not_false_eq_true, i10, eq_self, decide_true, decide_false, Bool.or_true, Bool.true_or, Bool.or_false, Bool.false_or, Bool.false_eq_true, h1, hb, eX5_next_43_35, zp1, ih]
    · by_cases h2 : T a = 10
      · have hb : isB T a = true := decide_eq_true (Or.inr h2)
        simp only [px_bd_s, px_psh_s, px_psh_n, px_vb_s, px_ib_s, px_wb_s, px_bo_s, px_bo_n, Bool.cond_decide, cond_true, cond_false, ite_not, Bool.and_true, if_true, if_false, not_true_eq_false, not_false_eq_true, i10, eq_self, decide_true, decide_false, Bool.or_true, Bool.true_or, Bool.or_false, Bool.false_or, Bool.false_eq_true, h1, h2, hb, eX5_next_43_35, zp1, ih, show ¬ (10 : Nat) = 32 from by decide]
      · have hb : ¬ isB T a = true := fun q => by
          rcases of_decide_eq_true q with z | z
          · exact h1 z
          · exact h2 z
        simp only [px_bd_s, px_psh_s, px_psh_n, px_vb_s, px_ib_s, px_wb_s, px_bo_s, px_bo_n, Bool.cond_decide, cond_true, cond_false, ite_not, Bool.and_true, if_true, if_false, not_true_eq_false, not_false_eq_true, i10, eq_self, decide_true, decide_false, Bool.or_true, Bool.true_or, Bool.or_false, Bool.false_or, Bool.false_eq_true, h1, h2, hb]
theorem c_next_43 {T : Nat → Nat} {n a : Nat} (hn : n ≤ 160) (ha : a ≤ n) (M : Nat → Nat → Int32) (hT : CT T n M) (h5 : M 37 5 = nI a) : ∃ M1, px_ex px_tab (d + 3) 61 [Value.ref (37)] (hp (M) (J) (R) (43) (38) nL xs (D)) = some (none, (hp (M1) (J) (R) (43) (38) nL xs (D))) ∧ CK M M1 ∧ TKc (skp T n a) (tka T n (skp T n a)) M1 := by
  have sk := c_skp_43 (d + 2) J R nL xs D hn M hT (n - a) a (by omega)
  have sb := skp_b T ha
  have e0 : px_ex px_tab (d + 3) 61 [Value.ref (37)] (hp (M) (J) (R) (43) (38) nL xs (D)) = px_run (px_mk (kX5_next (px_ex px_tab (d + 2)))) 41 ([some (Value.ref (37)), some (Value.int (nI (skp T n a)))], [], (hp (M) (J) (R) (43) (38) nL xs (D))) := by
    rw [xX5_next, eX5_next_43_0, h5]
    exact sk
  rw [e0]
  generalize skp T n a = b at sb
  have ckb : CK M (px_uR M 37 (upd (upd (M 37) 4 (nI b)) 5 (nI b))) := by
    have := ((CK.rf M).u 4 (by decide) (nI b)).u 5 (by decide) (nI b)
    rw [px_uR_2] at this
    exact this
  unfold tka
  by_cases h0 : n ≤ b
  · rw [if_pos h0]
    have ck := ckb.u 6 (by decide) 0
    rw [px_uR_2] at ck
    refine ⟨_, ?_, ck, rfl, rfl, rfl, fun q => by
      have q' : (0 : Nat) = 2 ∨ (0 : Nat) = 3 := q
      omega⟩
    rw [eX5_next_43_41, hT.1]
    simp (disch := omega) only [px_bd_s, px_psh_s, px_psh_n, px_vb_s, px_ib_s, px_wb_s, px_bo_s, px_bo_n, Bool.cond_decide, cond_true, cond_false, ite_not, Bool.and_true, if_true, if_false, not_true_eq_false, not_false_eq_true, i10, eq_self, decide_true, decide_false, Bool.or_true, Bool.true_or, Bool.or_false, Bool.false_or, Bool.false_eq_true, nI_ltI, if_neg, eX5_next_43_138]
    rfl
  · rw [if_neg h0]
    obtain ⟨t1, t2⟩ := hT.2 b (by omega)
    have st : px_run (px_mk (kX5_next (px_ex px_tab (d + 2)))) 41 ([some (Value.ref (37)), some (Value.int (nI b))], [], (hp (M) (J) (R) (43) (38) nL xs (D))) = px_run (px_mk (kX5_next (px_ex px_tab (d + 2)))) 67 ([some (Value.ref (37)), some (Value.int (nI b))], [], (hp (px_uR M 37 (upd (upd (M 37) 4 (nI b)) 5 (nI b))) (J) (R) (43) (38) nL xs (D))) := by
      rw [eX5_next_43_41, hT.1]
      simp (disch := omega) only [px_bd_s, px_psh_s, px_psh_n, px_vb_s, px_ib_s, px_wb_s, px_bo_s, px_bo_n, Bool.cond_decide, cond_true, cond_false, ite_not, Bool.and_true, if_true, if_false, not_true_eq_false, not_false_eq_true, i10, eq_self, decide_true, decide_false, Bool.or_true, Bool.true_or, Bool.or_false, Bool.false_or, Bool.false_eq_true, nI_ltI, if_pos]
    rw [st, eX5_next_43_67]
    have e48 : px_uR M 37 (upd (upd (M 37) 4 (nI b)) 5 (nI b)) 48 b = nI (T b) := t2
    simp (disch := omega) only [px_bd_s, px_psh_s, px_psh_n, px_vb_s, px_ib_s, px_wb_s, px_bo_s, px_bo_n, Bool.cond_decide, cond_true, cond_false, ite_not, Bool.and_true, if_true, if_false, not_true_eq_false, not_false_eq_true, i10, eq_self, decide_true, decide_false, Bool.or_true, Bool.true_or, Bool.or_false, Bool.false_or, Bool.false_eq_true, px_inbT, nI_clamp, e48, c_isLet_43 _ _ _ _ _ _ _ t1]
    by_cases h1 : isL T b = true
    · have h1' : 97 ≤ T b ∧ T b ≤ 122 := of_decide_eq_true h1
      rw [if_pos h1]
      obtain ⟨M1, q1, q2, q3⟩ := c_word_43 d J R nL xs D (b := b) hn (n - b) b (px_uR M 37 (upd (upd (M 37) 4 (nI b)) 5 (nI b))) (by omega) (Nat.le_refl _) (ckb.ct hT) rfl rfl
      refine ⟨M1, ?_, ckb.tr q2, q3⟩
      simp only [px_bd_s, px_psh_s, px_psh_n, px_vb_s, px_ib_s, px_wb_s, px_bo_s, px_bo_n, Bool.cond_decide, cond_true, cond_false, ite_not, Bool.and_true, if_true, if_false, not_true_eq_false, not_false_eq_true, i10, eq_self, decide_true, decide_false, Bool.or_true, Bool.true_or, Bool.or_false, Bool.false_or, Bool.false_eq_true, h1', and_self, eX5_next_43_67_5, q1, eX5_next_43_67_8, eX5_next_43_138]
    · have h1' : ¬ (97 ≤ T b ∧ T b ≤ 122) := fun q => h1 (decide_eq_true q)
      rw [if_neg h1]
      have e1 : px_p (kX5_next (px_ex px_tab (d + 2))) 67 5 ([some (Value.ref (37)), some (Value.int (nI b))], [Value.int (0)], (hp (px_uR M 37 (upd (upd (M 37) 4 (nI b)) 5 (nI b))) (J) (R) (43) (38) nL xs (D))) = px_bd (px_ex px_tab (d + 2) 63 [Value.int (nI (T b))] (hp (px_uR M 37 (upd (upd (M 37) 4 (nI b)) 5 (nI b))) (J) (R) (43) (38) nL xs (D))) (fun v G1 => px_p (kX5_next (px_ex px_tab (d + 2))) 86 5 ([some (.ref 37), some (.int (nI b))], px_psh v [], G1)) := by
        rw [eX5_next_43_67_5]
        simp (disch := omega) only [px_bd_s, px_psh_s, px_psh_n, px_vb_s, px_ib_s, px_wb_s, px_bo_s, px_bo_n, Bool.cond_decide, cond_true, cond_false, ite_not, Bool.and_true, if_true, if_false, not_true_eq_false, not_false_eq_true, i10, eq_self, decide_true, decide_false, Bool.or_true, Bool.true_or, Bool.or_false, Bool.false_or, Bool.false_eq_true, eX5_next_43_86, px_inbT, nI_clamp, e48]
      rw [if_neg h1', e1]
      simp (disch := omega) only [px_bd_s, px_psh_s, px_psh_n, px_vb_s, px_ib_s, px_wb_s, px_bo_s, px_bo_n, Bool.cond_decide, cond_true, cond_false, ite_not, Bool.and_true, if_true, if_false, not_true_eq_false, not_false_eq_true, i10, eq_self, decide_true, decide_false, Bool.or_true, Bool.true_or, Bool.or_false, Bool.false_or, Bool.false_eq_true, c_isDig_43 _ _ _ _ _ _ _ t1]
      by_cases h2 : isD T b = true
      · have h2' : 48 ≤ T b ∧ T b ≤ 57 := of_decide_eq_true h2
        rw [if_pos h2]
        obtain ⟨M1, q1, q2, q3⟩ := c_num_43 d J R nL xs D (b := b) hn (by omega) (px_uR M 37 (upd (upd (M 37) 4 (nI b)) 5 (nI b))) (ckb.ct hT) rfl rfl
        refine ⟨M1, ?_, ckb.tr q2, q3⟩
        simp only [px_bd_s, px_psh_s, px_psh_n, px_vb_s, px_ib_s, px_wb_s, px_bo_s, px_bo_n, Bool.cond_decide, cond_true, cond_false, ite_not, Bool.and_true, if_true, if_false, not_true_eq_false, not_false_eq_true, i10, eq_self, decide_true, decide_false, Bool.or_true, Bool.true_or, Bool.or_false, Bool.false_or, Bool.false_eq_true, h2', and_self, eX5_next_43_86_5, q1, eX5_next_43_86_8, eX5_next_43_138]
      · have h2' : ¬ (48 ≤ T b ∧ T b ≤ 57) := fun q => h2 (decide_eq_true q)
        rw [if_neg h2]
        have ev : (if isB T b = true then 1 else if T b = 40 ∨ T b = 41 ∨ T b = 42 ∨ T b = 43 ∨ T b = 45 ∨ T b = 59 ∨ T b = 60 ∨ T b = 61 then T b else 1) = if T b = 40 ∨ T b = 41 ∨ T b = 42 ∨ T b = 43 ∨ T b = 45 ∨ T b = 59 ∨ T b = 60 ∨ T b = 61 then T b else 1 := by
          by_cases hB : isB T b = true
          · have := of_decide_eq_true hB
            rw [if_pos hB, if_neg (by omega)]
          · rw [if_neg hB]
        rw [ev]
        have tk23 : ∀ w : Nat, (w = 1 ∨ 40 ≤ w) → (w = 2 ∨ w = 3) → False := fun w h3 h4 => by omega
        by_cases hS : T b = 40 ∨ T b = 41 ∨ T b = 42 ∨ T b = 43 ∨ T b = 45 ∨ T b = 59 ∨ T b = 60 ∨ T b = 61
        · rw [if_pos hS]
          have ck := (ckb.u 6 (by decide) (nI (T b))).u 5 (by decide) (nI (b + 1))
          rw [px_uR_2, px_uR_2] at ck
          refine ⟨_, ?_, ck, rfl, rfl, rfl, fun q => (tk23 (T b) (by omega) q).elim⟩
          rw [if_neg h2', eX5_next_43_86_5]
          simp (disch := omega) only [px_bd_s, px_psh_s, px_psh_n, px_vb_s, px_ib_s, px_wb_s, px_bo_s, px_bo_n, Bool.cond_decide, cond_true, cond_false, ite_not, Bool.and_true, if_true, if_false, not_true_eq_false, not_false_eq_true, i10, eq_self, decide_true, decide_false, Bool.or_true, Bool.true_or, Bool.or_false, Bool.false_or, Bool.false_eq_true, eX5_next_43_105, px_inbT, nI_clamp, e48, c_isSgn_43 _ _ _ _ _ _ _ t1, hS, eX5_next_43_105_6, eX5_next_43_128, eX5_next_43_138, zp1]
          rfl
        · rw [if_neg hS]
          have ck := (ckb.u 6 (by decide) 1).u 5 (by decide) (nI (b + 1))
          rw [px_uR_2, px_uR_2] at ck
          refine ⟨_, ?_, ck, rfl, rfl, rfl, fun q => (tk23 1 (Or.inl rfl) q).elim⟩
          rw [if_neg h2', eX5_next_43_86_5]
          simp (disch := omega) only [px_bd_s, px_psh_s, px_psh_n, px_vb_s, px_ib_s, px_wb_s, px_bo_s, px_bo_n, Bool.cond_decide, cond_true, cond_false, ite_not, Bool.and_true, if_true, if_false, not_true_eq_false, not_false_eq_true, i10, eq_self, decide_true, decide_false, Bool.or_true, Bool.true_or, Bool.or_false, Bool.false_or, Bool.false_eq_true, eX5_next_43_105, px_inbT, nI_clamp, e48, c_isSgn_43 _ _ _ _ _ _ _ t1, hS, eX5_next_43_105_6, eX5_next_43_127, eX5_next_43_128, eX5_next_43_138, zp1]
          rfl
end S81
