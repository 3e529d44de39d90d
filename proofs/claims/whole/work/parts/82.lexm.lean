/-! PART 82: TOKENS: the model's next -/
def MT (T : Nat → Nat) (n : Nat) (M : Nat → Nat → Int32) : Prop := M 67 55 = nI n ∧ TX T n (M 95)
def wx (i : Nat) : Nat := ([0, 5, 10, 16, 18, 20, 24, 28, 31, 35, 39] : List Nat).getD i 0
def IWd (M : Nat → Nat → Int32) : Prop := ∀ i, i < 10 → (∀ j, j < wl i → M 106 (wx i + j) = nI (wc i j)) ∧ M 106 (wx i + wl i) = 0
def MK (M M1 : Nat → Nat → Int32) : Prop := frm [] [57, 58, 59, 60] M M1
theorem MK.u {M M1 : Nat → Nat → Int32} (h : MK M M1) (k : Nat) (hk : k ∈ [57, 58, 59, 60]) (x : Int32) : MK M (px_uR M1 67 (upd (M1 67) k x)) := frm.k h k x hk
theorem MK.mt {T : Nat → Nat} {n : Nat} {M M1 : Nat → Nat → Int32} (h : MK M M1) (h2 : MT T n M) : MT T n M1 := by
  unfold MT
  rw [h.2 55 (by decide), h.1 95 (by decide) (by decide)]
  exact h2
theorem MK.wd {M M1 : Nat → Nat → Int32} (h : MK M M1) (h2 : IWd M) : IWd M1 := by
  unfold IWd
  rw [h.1 106 (by decide) (by decide)]
  exact h2
/-- the model's number of a token -/
def mtk (t : Nat) : Nat := if t = 1 then 2 else if t = 2 then 1 else if 10 ≤ t ∧ t ≤ 13 then 290 + t else t
def TKm (b : Nat) (t : Nat × Nat × Int32) (M : Nat → Nat → Int32) : Prop := M 67 58 = nI b ∧ M 67 57 = nI t.1 ∧ M 67 59 = nI (mtk t.2.1) ∧ (t.2.1 = 2 ∨ t.2.1 = 3 → M 67 60 = t.2.2)
def eqm (T : Nat → Nat) (ch : Nat → Nat) (b l : Nat) : Nat → Nat → Bool
  | 0, _ => true
  | g + 1, j => (decide (T (b + j) = ch j) && decide (j < l)) && eqm T ch b l g (j + 1)
theorem eqm_s (T ch : Nat → Nat) (b l g j : Nat) : eqm T ch b l (g + 1) j = ((decide (T (b + j) = ch j) && decide (j < l)) && eqm T ch b l g (j + 1)) := rfl
theorem eqm_r (T ch : Nat → Nat) (b l : Nat) : ∀ g j, j + g = l → eqm T ch b l g j = eqr T ch b g j
  | 0, _, _ => rfl
  | g + 1, j, h => by
    rw [eqm_s, eqr_s, eqm_r T ch b l g (j + 1) (by omega), decide_eq_true (show j < l by omega), Bool.and_true]
theorem wd_f : ∀ i, i < 10 → 1 ≤ wl i ∧ wl i ≤ 5 ∧ wx i + wl i < 39 ∧ wx (i + 1) = wx i + wl i + 1 := by decide
theorem wc_f : ∀ i, i < 10 → ∀ j, j < wl i → 97 ≤ wc i j ∧ wc i j ≤ 122 := by decide
section S82
variable (d : Nat) (J : Nat → Nat → Int64) (R : Nat → Nat → Option Nat) (c e nL : Nat) (xs : Nat → Int32) (D : px_H)
theorem m_byte {T : Nat → Nat} {n : Nat} (hn : n ≤ 160) (M : Nat → Nat → Int32) (hT : MT T n M) {k : Nat} (hk : k < 400) : px_ex px_tab (d + 1) 208 [Value.ref (67), Value.int (nI k)] (hp (M) (J) (R) (c) (e) nL xs (D)) = some (some (Value.int (if k < n then nI (T k) else -1)), (hp (M) (J) (R) (c) (e) nL xs (D))) := by
  rw [xX12_byteAt, eX12_byteAt_0, hT.1]
  by_cases h : k < n
  · obtain ⟨t1, t2⟩ := hT.2 k h
    rw [if_pos h]
    simp (disch := omega) only [px_bd_s, px_psh_s, px_psh_n, px_vb_s, px_ib_s, px_wb_s, px_bo_s, px_bo_n, Bool.cond_decide, cond_true, cond_false, ite_not, Bool.and_true, if_true, if_false, not_true_eq_false, not_false_eq_true, i10, eq_self, decide_true, decide_false, Bool.or_true, Bool.true_or, Bool.or_false, Bool.false_or, Bool.false_eq_true, nI_leI, if_neg, px_inbT, nI_clamp, t2, eX12_byteAt_18]
  · rw [if_neg h]
    simp (disch := omega) only [px_bd_s, px_psh_s, px_psh_n, px_vb_s, px_ib_s, px_wb_s, px_bo_s, px_bo_n, Bool.cond_decide, cond_true, cond_false, ite_not, Bool.and_true, if_true, if_false, not_true_eq_false, not_false_eq_true, i10, eq_self, decide_true, decide_false, Bool.or_true, Bool.true_or, Bool.or_false, Bool.false_or, Bool.false_eq_true, nI_leI, if_pos, eX12_byteAt_17, eX12_byteAt_18]
theorem m_isLet (M : Nat → Nat → Int32) {v : Nat} (hv : v < 256) : px_ex px_tab (d + 1) 209 [Value.int (nI v)] (hp (M) (J) (R) (c) (e) nL xs (D)) = some (some (Value.int (if 97 ≤ v ∧ v ≤ 122 then 1 else 0)), (hp (M) (J) (R) (c) (e) nL xs (D))) := by
  rw [xX12_isLetter]
  simp (disch := omega) only [px_bd_s, px_psh_s, px_psh_n, px_vb_s, px_ib_s, px_wb_s, px_bo_s, px_bo_n, Bool.cond_decide, cond_true, cond_false, ite_not, Bool.and_true, if_true, if_false, not_true_eq_false, not_false_eq_true, i10, eq_self, decide_true, decide_false, Bool.or_true, Bool.true_or, Bool.or_false, Bool.false_or, Bool.false_eq_true, eX12_isLetter_0, lt97, gt122]
  by_cases h1 : v < 97
  · rw [if_pos h1, if_neg (by omega)]
    simp only [px_bd_s, px_psh_s, px_psh_n, px_vb_s, px_ib_s, px_wb_s, px_bo_s, px_bo_n, Bool.cond_decide, cond_true, cond_false, ite_not, Bool.and_true, if_true, if_false, not_true_eq_false, not_false_eq_true, i10, eq_self, decide_true, decide_false, Bool.or_true, Bool.true_or, Bool.or_false, Bool.false_or, Bool.false_eq_true, eX12_isLetter_16, eX12_isLetter_17]
  · rw [if_neg h1]
    by_cases h2 : 122 < v
    · rw [if_pos h2, if_neg (by omega)]
      simp only [px_bd_s, px_psh_s, px_psh_n, px_vb_s, px_ib_s, px_wb_s, px_bo_s, px_bo_n, Bool.cond_decide, cond_true, cond_false, ite_not, Bool.and_true, if_true, if_false, not_true_eq_false, not_false_eq_true, i10, eq_self, decide_true, decide_false, Bool.or_true, Bool.true_or, Bool.or_false, Bool.false_or, Bool.false_eq_true, eX12_isLetter_16, eX12_isLetter_17]
    · rw [if_neg h2, if_pos (by omega)]
      simp only [px_bd_s, px_psh_s, px_psh_n, px_vb_s, px_ib_s, px_wb_s, px_bo_s, px_bo_n, Bool.cond_decide, cond_true, cond_false, ite_not, Bool.and_true, if_true, if_false, not_true_eq_false, not_false_eq_true, i10, eq_self, decide_true, decide_false, Bool.or_true, Bool.true_or, Bool.or_false, Bool.false_or, Bool.false_eq_true, eX12_isLetter_16, eX12_isLetter_17]
theorem m_isDig (M : Nat → Nat → Int32) {v : Nat} (hv : v < 256) : px_ex px_tab (d + 1) 210 [Value.int (nI v)] (hp (M) (J) (R) (c) (e) nL xs (D)) = some (some (Value.int (if 48 ≤ v ∧ v ≤ 57 then 1 else 0)), (hp (M) (J) (R) (c) (e) nL xs (D))) := by
  rw [xX12_isDigit]
  simp (disch := omega) only [px_bd_s, px_psh_s, px_psh_n, px_vb_s, px_ib_s, px_wb_s, px_bo_s, px_bo_n, Bool.cond_decide, cond_true, cond_false, ite_not, Bool.and_true, if_true, if_false, not_true_eq_false, not_false_eq_true, i10, eq_self, decide_true, decide_false, Bool.or_true, Bool.true_or, Bool.or_false, Bool.false_or, Bool.false_eq_true, eX12_isDigit_0, lt48, gt57]
  by_cases h1 : v < 48
  · rw [if_pos h1, if_neg (by omega)]
    simp only [px_bd_s, px_psh_s, px_psh_n, px_vb_s, px_ib_s, px_wb_s, px_bo_s, px_bo_n, Bool.cond_decide, cond_true, cond_false, ite_not, Bool.and_true, if_true, if_false, not_true_eq_false, not_false_eq_true, i10, eq_self, decide_true, decide_false, Bool.or_true, Bool.true_or, Bool.or_false, Bool.false_or, Bool.false_eq_true, eX12_isDigit_16, eX12_isDigit_17]
  · rw [if_neg h1]
    by_cases h2 : 57 < v
    · rw [if_pos h2, if_neg (by omega)]
      simp only [px_bd_s, px_psh_s, px_psh_n, px_vb_s, px_ib_s, px_wb_s, px_bo_s, px_bo_n, Bool.cond_decide, cond_true, cond_false, ite_not, Bool.and_true, if_true, if_false, not_true_eq_false, not_false_eq_true, i10, eq_self, decide_true, decide_false, Bool.or_true, Bool.true_or, Bool.or_false, Bool.false_or, Bool.false_eq_true, eX12_isDigit_16, eX12_isDigit_17]
    · rw [if_neg h2, if_pos (by omega)]
      simp only [px_bd_s, px_psh_s, px_psh_n, px_vb_s, px_ib_s, px_wb_s, px_bo_s, px_bo_n, Bool.cond_decide, cond_true, cond_false, ite_not, Bool.and_true, if_true, if_false, not_true_eq_false, not_false_eq_true, i10, eq_self, decide_true, decide_false, Bool.or_true, Bool.true_or, Bool.or_false, Bool.false_or, Bool.false_eq_true, eX12_isDigit_16, eX12_isDigit_17]
theorem m_isLet_n (M : Nat → Nat → Int32) : px_ex px_tab (d + 1) 209 [Value.int (-1)] (hp (M) (J) (R) (c) (e) nL xs (D)) = some (some (Value.int (0)), (hp (M) (J) (R) (c) (e) nL xs (D))) := by
  rw [xX12_isLetter]
  simp only [px_bd_s, px_psh_s, px_psh_n, px_vb_s, px_ib_s, px_wb_s, px_bo_s, px_bo_n, Bool.cond_decide, cond_true, cond_false, ite_not, Bool.and_true, if_true, if_false, not_true_eq_false, not_false_eq_true, i10, eq_self, decide_true, decide_false, Bool.or_true, Bool.true_or, Bool.or_false, Bool.false_or, Bool.false_eq_true, eX12_isLetter_0, eX12_isLetter_16, eX12_isLetter_17, show (-1 : Int32) < 97 from by decide]
theorem m_isDig_n (M : Nat → Nat → Int32) : px_ex px_tab (d + 1) 210 [Value.int (-1)] (hp (M) (J) (R) (c) (e) nL xs (D)) = some (some (Value.int (0)), (hp (M) (J) (R) (c) (e) nL xs (D))) := by
  rw [xX12_isDigit]
  simp only [px_bd_s, px_psh_s, px_psh_n, px_vb_s, px_ib_s, px_wb_s, px_bo_s, px_bo_n, Bool.cond_decide, cond_true, cond_false, ite_not, Bool.and_true, if_true, if_false, not_true_eq_false, not_false_eq_true, i10, eq_self, decide_true, decide_false, Bool.or_true, Bool.true_or, Bool.or_false, Bool.false_or, Bool.false_eq_true, eX12_isDigit_0, eX12_isDigit_16, eX12_isDigit_17, show (-1 : Int32) < 48 from by decide]
theorem m_num_l {T : Nat → Nat} {n b : Nat} (hn : n ≤ 160) : ∀ (g a : Nat) (M : Nat → Nat → Int32), a + g = n → b ≤ a → MT T n M → M 67 58 = nI b → M 67 57 = nI a → M 67 60 = nv T b (min (a - b) 4) → ∃ M1, px_run (px_mk (kX12_number (px_ex px_tab (d + 1)))) 5 ([some (Value.ref (67))], [], (hp (M) (J) (R) (c) (e) nL xs (D))) = some (none, (hp (M1) (J) (R) (c) (e) nL xs (D))) ∧ MK M M1 ∧ TKm b (scn (isD T) g a, (if scn (isD T) g a - b ≤ 4 then 2 else 1), nv T b (scn (isD T) g a - b)) M1 := by
  have fin : ∀ (a : Nat) (M : Nat → Nat → Int32), b ≤ a → a ≤ 160 → M 67 58 = nI b → M 67 57 = nI a → M 67 60 = nv T b (min (a - b) 4) → ∃ M1, px_run (px_mk (kX12_number (px_ex px_tab (d + 1)))) 75 ([some (Value.ref (67))], [], (hp (M) (J) (R) (c) (e) nL xs (D))) = some (none, (hp (M1) (J) (R) (c) (e) nL xs (D))) ∧ MK M M1 ∧ TKm b (a, (if a - b ≤ 4 then 2 else 1), nv T b (a - b)) M1 := by
    intro a M hb ha h4 h5 h7
    have x : (nI (a - b) ≤ (4 : Int32)) ↔ a - b ≤ 4 := nI_leI (b := 4) (by omega) (by decide)
    by_cases h : a - b ≤ 4
    · refine ⟨px_uR M 67 (upd (M 67) 59 1), ?_, MK.u (frm.rf _ _ _) 59 (by decide) _, h4, h5, ?_, fun _ => ?_⟩
      · rw [eX12_number_75, h4, h5, pk_sub hb]
        simp only [px_bd_s, px_psh_s, px_psh_n, px_vb_s, px_ib_s, px_wb_s, px_bo_s, px_bo_n, Bool.cond_decide, cond_true, cond_false, ite_not, Bool.and_true, if_true, if_false, not_true_eq_false, not_false_eq_true, i10, eq_self, decide_true, decide_false, Bool.or_true, Bool.true_or, Bool.or_false, Bool.false_or, Bool.false_eq_true, x, h, eX12_number_93, eX12_number_94]
      · show upd (M 67) 59 1 59 = nI (mtk (if a - b ≤ 4 then 2 else 1))
        rw [if_pos h]
        exact pk_us
      · show M 67 60 = nv T b (a - b)
        rw [h7, show min (a - b) 4 = a - b from by omega]
    · refine ⟨px_uR M 67 (upd (M 67) 59 2), ?_, MK.u (frm.rf _ _ _) 59 (by decide) _, h4, h5, ?_, fun q => ?_⟩
      · rw [eX12_number_75, h4, h5, pk_sub hb]
        simp only [px_bd_s, px_psh_s, px_psh_n, px_vb_s, px_ib_s, px_wb_s, px_bo_s, px_bo_n, Bool.cond_decide, cond_true, cond_false, ite_not, Bool.and_true, if_true, if_false, not_true_eq_false, not_false_eq_true, i10, eq_self, decide_true, decide_false, Bool.or_true, Bool.true_or, Bool.or_false, Bool.false_or, Bool.false_eq_true, x, h, eX12_number_94]
      · show upd (M 67) 59 2 59 = nI (mtk (if a - b ≤ 4 then 2 else 1))
        rw [if_neg h]
        exact pk_us
      · have q' : (if a - b ≤ 4 then 2 else 1) = 2 ∨ (if a - b ≤ 4 then 2 else 1) = 3 := q
        rw [if_neg h] at q'
        omega
  intro g
  induction g with
  | zero =>
    intro a M hg hb hT h4 h5 h7
    obtain ⟨M1, q1, q2⟩ := fin a M hb (by omega) h4 h5 h7
    refine ⟨M1, ?_, q2⟩
    refine Eq.trans ?_ q1
    rw [eX12_number_5, h5]
    simp (disch := omega) only [px_bd_s, px_psh_s, px_psh_n, px_vb_s, px_ib_s, px_wb_s, px_bo_s, px_bo_n, Bool.cond_decide, cond_true, cond_false, ite_not, Bool.and_true, if_true, if_false, not_true_eq_false, not_false_eq_true, i10, eq_self, decide_true, decide_false, Bool.or_true, Bool.true_or, Bool.or_false, Bool.false_or, Bool.false_eq_true, m_byte _ _ _ _ _ _ _ _ hn M hT, if_neg, eX12_number_5_4, m_isDig_n, eX12_number_5_5]
  | succ g ih =>
    intro a M hg hb hT h4 h5 h7
    obtain ⟨t1, t2⟩ := hT.2 a (by omega)
    rw [scn_s]
    by_cases hd : isD T a = true
    · rw [if_pos hd]
      have hd' : 48 ≤ T a ∧ T a ≤ 57 := of_decide_eq_true hd
      have x4 : ((4 : Int32) ≤ nI (a - b)) ↔ 4 ≤ a - b := nI_leI (a := 4) (by decide) (by omega)
      have go : ∀ w : Int32, w = nv T b (min (a + 1 - b) 4) → px_run (px_mk (kX12_number (px_ex px_tab (d + 1)))) 5 ([some (Value.ref (67))], [], (hp (M) (J) (R) (c) (e) nL xs (D))) = px_run (px_mk (kX12_number (px_ex px_tab (d + 1)))) 59 ([some (Value.ref (67))], [Value.int (w), Value.ref (67)], (hp (M) (J) (R) (c) (e) nL xs (D))) → ∃ M1, px_run (px_mk (kX12_number (px_ex px_tab (d + 1)))) 5 ([some (Value.ref (67))], [], (hp (M) (J) (R) (c) (e) nL xs (D))) = some (none, (hp (M1) (J) (R) (c) (e) nL xs (D))) ∧ MK M M1 ∧ TKm b (scn (isD T) g (a + 1), (if scn (isD T) g (a + 1) - b ≤ 4 then 2 else 1), nv T b (scn (isD T) g (a + 1) - b)) M1 := by
        intro w hw hr
        have ck : MK M (px_uR M 67 (upd (upd (M 67) 60 w) 57 (nI (a + 1)))) := by
          have := (MK.u (frm.rf [] [57, 58, 59, 60] M) 60 (by decide) w).u 57 (by decide) (nI (a + 1))
          rw [px_uR_2] at this
          exact this
        obtain ⟨M1, q1, q2, q3⟩ := ih (a + 1) (px_uR M 67 (upd (upd (M 67) 60 w) 57 (nI (a + 1)))) (by omega) (by omega) (ck.mt hT) h4 rfl hw
        refine ⟨M1, ?_, frm.tr ck q2, q3⟩
        rw [hr]
        refine Eq.trans ?_ q1
        rw [eX12_number_59, h5, zp1]
      by_cases h44 : 4 ≤ a - b
      · refine go (M 67 60) ?_ ?_
        · rw [h7, show min (a - b) 4 = 4 from by omega, show min (a + 1 - b) 4 = 4 from by omega]
        · rw [eX12_number_5, h5]
          simp (disch := omega) only [px_bd_s, px_psh_s, px_psh_n, px_vb_s, px_ib_s, px_wb_s, px_bo_s, px_bo_n, Bool.cond_decide, cond_true, cond_false, ite_not, Bool.and_true, if_true, if_false, not_true_eq_false, not_false_eq_true, i10, eq_self, decide_true, decide_false, Bool.or_true, Bool.true_or, Bool.or_false, Bool.false_or, Bool.false_eq_true, m_byte _ _ _ _ _ _ _ _ hn M hT, if_pos, eX12_number_5_4, m_isDig _ _ _ _ _ _ _ _ M t1, hd', and_self, eX12_number_5_5, h5, h4, pk_sub hb, x4, h44, eX12_number_55]
      · refine go (10 * M 67 60 + nI (T a) - 48) ?_ ?_
        · rw [h7, show min (a - b) 4 = a - b from by omega, show min (a + 1 - b) 4 = (a - b) + 1 from by omega, nv_s, show b + (a - b) = a from by omega]
        · rw [eX12_number_5, h5]
          simp (disch := omega) only [px_bd_s, px_psh_s, px_psh_n, px_vb_s, px_ib_s, px_wb_s, px_bo_s, px_bo_n, Bool.cond_decide, cond_true, cond_false, ite_not, Bool.and_true, if_true, if_false, not_true_eq_false, not_false_eq_true, i10, eq_self, decide_true, decide_false, Bool.or_true, Bool.true_or, Bool.or_false, Bool.false_or, Bool.false_eq_true, m_byte _ _ _ _ _ _ _ _ hn M hT, if_pos, eX12_number_5_4, m_isDig _ _ _ _ _ _ _ _ M t1, hd', and_self, eX12_number_5_5, h5, h4, pk_sub hb, x4, h44, eX12_number_5_22]
    · rw [if_neg hd]
      have hd' : ¬ (48 ≤ T a ∧ T a ≤ 57) := fun q => hd (decide_eq_true q)
      obtain ⟨M1, q1, q2⟩ := fin a M hb (by omega) h4 h5 h7
      refine ⟨M1, ?_, q2⟩
      refine Eq.trans ?_ q1
      rw [eX12_number_5, h5]
      simp (disch := omega) only [px_bd_s, px_psh_s, px_psh_n, px_vb_s, px_ib_s, px_wb_s, px_bo_s, px_bo_n, Bool.cond_decide, cond_true, cond_false, ite_not, Bool.and_true, if_true, if_false, not_true_eq_false, not_false_eq_true, i10, eq_self, decide_true, decide_false, Bool.or_true, Bool.true_or, Bool.or_false, Bool.false_or, Bool.false_eq_true, m_byte _ _ _ _ _ _ _ _ hn M hT, if_pos, eX12_number_5_4, m_isDig _ _ _ _ _ _ _ _ M t1, hd', eX12_number_5_5]
theorem m_wd_in {T : Nat → Nat} {n b l i : Nat} (hn : n ≤ 160) (hb : b + l ≤ n) (hi : i < 10) (M : Nat → Nat → Int32) (hT : MT T n M) (hW : IWd M) (h4 : M 67 58 = nI b) (h5 : M 67 57 = nI (b + l)) : ∀ (g j : Nat) (s : Bool), j + g = wl i → px_run (px_mk (kX12_word (px_ex px_tab (d + 1)))) 41 ([some (Value.ref (67)), some (Value.int (nI i)), some (Value.int (nI j)), some (Value.int (if s = true then 1 else 0)), some (Value.int (nI (wx i + j)))], [], (hp (M) (J) (R) (c) (e) nL xs (D))) = px_run (px_mk (kX12_word (px_ex px_tab (d + 1)))) 41 ([some (Value.ref (67)), some (Value.int (nI i)), some (Value.int (nI (wl i))), some (Value.int (if (s && eqm T (wc i) b l g j) = true then 1 else 0)), some (Value.int (nI (wx i + wl i)))], [], (hp (M) (J) (R) (c) (e) nL xs (D)))
  | 0, j, s, hg => by
    rw [show j = wl i from by omega, show eqm T (wc i) b l 0 (wl i) = true from rfl, Bool.and_true]
  | g + 1, j, s, hg => by
    obtain ⟨f1, f2, f3, f4⟩ := wd_f i hi
    obtain ⟨c1, c2⟩ := wc_f i hi j (by omega)
    have r := (hW i hi).1 j (by omega)
    have ih := m_wd_in hn hb hi M hT hW h4 h5 g (j + 1)
    have x39 : ¬ Int32.ofNat 39 ≤ nI (wx i + j) := fun q => by
      have := (nI_leI (a := 39) (by decide) (by omega)).mp q
      omega
    have r0 : ¬ nI (wc i j) = 0 := fun q => by
      have := (nI_eq (b := 0) (by omega) (by decide)).mp q
      omega
    rw [eqm_s, eX12_word_41]
    simp (disch := omega) only [px_bd_s, px_psh_s, px_psh_n, px_vb_s, px_ib_s, px_wb_s, px_bo_s, px_bo_n, Bool.cond_decide, cond_true, cond_false, ite_not, Bool.and_true, if_true, if_false, not_true_eq_false, not_false_eq_true, i10, eq_self, decide_true, decide_false, Bool.or_true, Bool.true_or, Bool.or_false, Bool.false_or, Bool.false_eq_true, x39, px_inbT, nI_clamp, r, r0, eX12_word_115]
    cases s with
    | false =>
      have k := ih false (by omega)
      simp only [px_bd_s, px_psh_s, px_psh_n, px_vb_s, px_ib_s, px_wb_s, px_bo_s, px_bo_n, Bool.cond_decide, cond_true, cond_false, ite_not, Bool.and_true, if_true, if_false, not_true_eq_false, not_false_eq_true, i10, eq_self, decide_true, decide_false, Bool.or_true, Bool.true_or, Bool.or_false, Bool.false_or, Bool.false_eq_true, Bool.false_and, eX12_word_156, eX12_word_157, eX12_word_161, zp1] at k ⊢
      exact k
    | true =>
      have ep : nI b + nI j = nI (b + j) := nI_add b j
      have el : nI (b + l) - nI b = nI l := by rw [pk_sub (by omega), show b + l - b = l from by omega]
      have xl : (nI l ≤ nI j) ↔ ¬ j < l := by
        rw [nI_leI (by omega) (by omega)]
        omega
      have mb := m_byte d J R c e nL xs D hn M hT (k := b + j) (by omega)
      by_cases h1 : j < l
      · obtain ⟨t1, t2⟩ := hT.2 (b + j) (by omega)
        have x : (nI (T (b + j)) = nI (wc i j)) ↔ T (b + j) = wc i j := nI_eq (by omega) (by omega)
        rw [if_pos (show b + j < n by omega)] at mb
        by_cases h2 : T (b + j) = wc i j
        · have k := ih true (by omega)
          simp (disch := omega) only [px_bd_s, px_psh_s, px_psh_n, px_vb_s, px_ib_s, px_wb_s, px_bo_s, px_bo_n, Bool.cond_decide, cond_true, cond_false, ite_not, Bool.and_true, if_true, if_false, not_true_eq_false, not_false_eq_true, i10, eq_self, decide_true, decide_false, Bool.or_true, Bool.true_or, Bool.or_false, Bool.false_or, Bool.false_eq_true, Bool.true_and, h4, h5, ep, mb, eX12_word_115_8, px_inbT, nI_clamp, r, x, h2, el, xl, h1, eX12_word_157, eX12_word_161, zp1] at k ⊢
          exact k
        · have k := ih false (by omega)
          simp (disch := omega) only [px_bd_s, px_psh_s, px_psh_n, px_vb_s, px_ib_s, px_wb_s, px_bo_s, px_bo_n, Bool.cond_decide, cond_true, cond_false, ite_not, Bool.and_true, if_true, if_false, not_true_eq_false, not_false_eq_true, i10, eq_self, decide_true, decide_false, Bool.or_true, Bool.true_or, Bool.or_false, Bool.false_or, Bool.false_eq_true, Bool.true_and, Bool.false_and, h4, h5, ep, mb, eX12_word_115_8, px_inbT, nI_clamp, r, x, h2, el, xl, h1, eX12_word_156, eX12_word_157, eX12_word_161, zp1] at k ⊢
          exact k
      · have k := ih false (by omega)
        simp (disch := omega) only [px_bd_s, px_psh_s, px_psh_n, px_vb_s, px_ib_s, px_wb_s, px_bo_s, px_bo_n, Bool.cond_decide, cond_true, cond_false, ite_not, Bool.and_true, if_true, if_false, not_true_eq_false, not_false_eq_true, i10, eq_self, decide_true, decide_false, Bool.or_true, Bool.true_or, Bool.or_false, Bool.false_or, Bool.false_eq_true, Bool.true_and, Bool.false_and, Bool.and_false, h4, h5, ep, mb, eX12_word_115_8, px_inbT, nI_clamp, r, el, xl, h1, eX12_word_156, eX12_word_157, eX12_word_161, zp1, ite_self] at k ⊢
        exact k
theorem m_wd_l {T : Nat → Nat} {n b l : Nat} (hn : n ≤ 160) (hb : b + l ≤ n) : ∀ (g i : Nat) (M : Nat → Nat → Int32), i + g = 10 → MT T n M → IWd M → TKm b (b + l, (wtk T b l i).1, nI (wtk T b l i).2) M → ∃ M1, px_run (px_mk (kX12_word (px_ex px_tab (d + 1)))) 41 ([some (Value.ref (67)), some (Value.int (nI i)), some (Value.int (0)), some (Value.int (1)), some (Value.int (nI (wx i)))], [], (hp (M) (J) (R) (c) (e) nL xs (D))) = some (none, (hp (M1) (J) (R) (c) (e) nL xs (D))) ∧ MK M M1 ∧ TKm b (b + l, (wtk T b l 10).1, nI (wtk T b l 10).2) M1
  | 0, i, M, hg, hT, hW, hK => by
    rw [show i = 10 from by omega] at hK ⊢
    refine ⟨M, ?_, frm.rf _ _ _, hK⟩
    rw [eX12_word_41]
    simp only [px_bd_s, px_psh_s, px_psh_n, px_vb_s, px_ib_s, px_wb_s, px_bo_s, px_bo_n, Bool.cond_decide, cond_true, cond_false, ite_not, Bool.and_true, if_true, if_false, not_true_eq_false, not_false_eq_true, i10, eq_self, decide_true, decide_false, Bool.or_true, Bool.true_or, Bool.or_false, Bool.false_or, Bool.false_eq_true, show Int32.ofNat 39 ≤ nI (wx 10) from by decide, eX12_word_167]
  | g + 1, i, M, hg, hT, hW, hK => by
    obtain ⟨f1, f2, f3, f4⟩ := wd_f i (by omega)
    have inn := m_wd_in d J R c e nL xs D hn hb (i := i) (by omega) M hT hW hK.1 hK.2.1 (wl i) 0 true (by omega)
    have r := (hW i (by omega)).2
    have x39 : ¬ Int32.ofNat 39 ≤ nI (wx i + wl i) := fun q => by
      have := (nI_leI (a := 39) (by decide) (by omega)).mp q
      omega
    have el : nI (b + l) - nI b = nI l := by rw [pk_sub (by omega), show b + l - b = l from by omega]
    have xw : (nI (wl i) = nI l) ↔ wl i = l := nI_eq (by omega) (by omega)
    have h57 : M 67 57 = nI (b + l) := hK.2.1
    rw [Nat.add_zero, Bool.true_and] at inn
    have go : ∀ (M' : Nat → Nat → Int32), px_run (px_mk (kX12_word (px_ex px_tab (d + 1)))) 41 ([some (Value.ref (67)), some (Value.int (nI i)), some (Value.int (nI (wl i))), some (Value.int (if eqm T (wc i) b l (wl i) 0 = true then 1 else 0)), some (Value.int (nI (wx i + wl i)))], [], (hp (M) (J) (R) (c) (e) nL xs (D))) = px_run (px_mk (kX12_word (px_ex px_tab (d + 1)))) 41 ([some (Value.ref (67)), some (Value.int (nI (i + 1))), some (Value.int (0)), some (Value.int (1)), some (Value.int (nI (wx (i + 1))))], [], (hp (M') (J) (R) (c) (e) nL xs (D))) → MK M M' → TKm b (b + l, (wtk T b l (i + 1)).1, nI (wtk T b l (i + 1)).2) M' → ∃ M1, px_run (px_mk (kX12_word (px_ex px_tab (d + 1)))) 41 ([some (Value.ref (67)), some (Value.int (nI i)), some (Value.int (0)), some (Value.int (1)), some (Value.int (nI (wx i)))], [], (hp (M) (J) (R) (c) (e) nL xs (D))) = some (none, (hp (M1) (J) (R) (c) (e) nL xs (D))) ∧ MK M M1 ∧ TKm b (b + l, (wtk T b l 10).1, nI (wtk T b l 10).2) M1 := by
      intro M' hr hk ht
      obtain ⟨M1, q1, q2, q3⟩ := m_wd_l hn hb g (i + 1) M' (by omega) (hk.mt hT) (hk.wd hW) ht
      exact ⟨M1, (show _ = _ from inn).trans (hr.trans q1), frm.tr hk q2, q3⟩
    by_cases hm : mtch T b l i = true
    · have ew : wtk T b l (i + 1) = (if i < 6 then 3 else 4 + i, i) := by rw [wtk_s, if_pos hm]
      have hl : wl i = l := by
        unfold mtch at hm
        rw [Bool.and_eq_true] at hm
        exact of_decide_eq_true hm.1
      have he : eqm T (wc i) b l (wl i) 0 = true := by
        rw [eqm_r T (wc i) b l (wl i) 0 (by omega)]
        unfold mtch at hm
        rw [Bool.and_eq_true] at hm
        exact hm.2
      refine go (px_uR M 67 (upd (upd (M 67) 59 (nI (mtk (if i < 6 then 3 else 4 + i)))) 60 (nI i))) ?_ ?_ ⟨hK.1, hK.2.1, by rw [ew]; rfl, fun _ => by rw [ew]; rfl⟩
      · rw [eX12_word_41]
        have x6 : ((6 : Int32) ≤ nI i) ↔ 6 ≤ i := nI_leI (a := 6) (by decide) (by omega)
        by_cases h6 : 6 ≤ i
        · have e6 : (300 : Int32) + nI i - 6 = nI (mtk (4 + i)) := by
            rw [show (300 : Int32) + nI i = nI (300 + i) from nI_add 300 i, show nI (300 + i) - 6 = nI (300 + i - 6) from pk_sub (b := 6) (by omega)]
            unfold mtk
            rw [if_neg (by omega), if_neg (by omega), if_pos (by omega), show 300 + i - 6 = 290 + (4 + i) from by omega]
          rw [if_neg (show ¬ i < 6 by omega)]
          simp (disch := omega) only [px_bd_s, px_psh_s, px_psh_n, px_vb_s, px_ib_s, px_wb_s, px_bo_s, px_bo_n, Bool.cond_decide, cond_true, cond_false, ite_not, Bool.and_true, if_true, if_false, not_true_eq_false, not_false_eq_true, i10, eq_self, decide_true, decide_false, Bool.or_true, Bool.true_or, Bool.or_false, Bool.false_or, Bool.false_eq_true, x39, px_inbT, nI_clamp, r, he, hK.1, h57, el, eq_true (xw.mpr hl), x6, h6, eX12_word_89, e6, eX12_word_97, eX12_word_105, eX12_word_161, zp1, f4]
        · rw [if_pos (show i < 6 by omega)]
          simp (disch := omega) only [px_bd_s, px_psh_s, px_psh_n, px_vb_s, px_ib_s, px_wb_s, px_bo_s, px_bo_n, Bool.cond_decide, cond_true, cond_false, ite_not, Bool.and_true, if_true, if_false, not_true_eq_false, not_false_eq_true, i10, eq_self, decide_true, decide_false, Bool.or_true, Bool.true_or, Bool.or_false, Bool.false_or, Bool.false_eq_true, x39, px_inbT, nI_clamp, r, he, hK.1, h57, el, eq_true (xw.mpr hl), x6, h6, eX12_word_97, eX12_word_105, eX12_word_161, zp1, f4]
          rfl
      · have := (MK.u (frm.rf [] [57, 58, 59, 60] M) 59 (by decide) (nI (mtk (if i < 6 then 3 else 4 + i)))).u 60 (by decide) (nI i)
        rw [px_uR_2] at this
        exact this
    · have ew : wtk T b l (i + 1) = wtk T b l i := by rw [wtk_s, if_neg hm]
      refine go M ?_ (frm.rf _ _ _) (by rw [ew]; exact hK)
      rw [eX12_word_41]
      by_cases he : eqm T (wc i) b l (wl i) 0 = true
      · have hl : ¬ wl i = l := fun q => hm (by
          unfold mtch
          rw [← eqm_r T (wc i) b l (wl i) 0 (by omega), he, decide_eq_true q]
          rfl)
        simp (disch := omega) only [px_bd_s, px_psh_s, px_psh_n, px_vb_s, px_ib_s, px_wb_s, px_bo_s, px_bo_n, Bool.cond_decide, cond_true, cond_false, ite_not, Bool.and_true, if_true, if_false, not_true_eq_false, not_false_eq_true, i10, eq_self, decide_true, decide_false, Bool.or_true, Bool.true_or, Bool.or_false, Bool.false_or, Bool.false_eq_true, x39, px_inbT, nI_clamp, r, he, hK.1, h57, el, xw, hl, eX12_word_105, eX12_word_161, zp1, f4]
      · simp (disch := omega) only [px_bd_s, px_psh_s, px_psh_n, px_vb_s, px_ib_s, px_wb_s, px_bo_s, px_bo_n, Bool.cond_decide, cond_true, cond_false, ite_not, Bool.and_true, if_true, if_false, not_true_eq_false, not_false_eq_true, i10, eq_self, decide_true, decide_false, Bool.or_true, Bool.true_or, Bool.or_false, Bool.false_or, Bool.false_eq_true, x39, px_inbT, nI_clamp, r, he, eX12_word_105, eX12_word_161, zp1, f4]
theorem m_word {T : Nat → Nat} {n b : Nat} (hn : n ≤ 160) : ∀ (g a : Nat) (M : Nat → Nat → Int32), a + g = n → b ≤ a → MT T n M → IWd M → M 67 58 = nI b → M 67 57 = nI a → ∃ M1, px_ex px_tab (d + 2) 213 [Value.ref (67)] (hp (M) (J) (R) (c) (e) nL xs (D)) = some (none, (hp (M1) (J) (R) (c) (e) nL xs (D))) ∧ MK M M1 ∧ TKm b (scn (isL T) g a, (wtk T b (scn (isL T) g a - b) 10).1, nI (wtk T b (scn (isL T) g a - b) 10).2) M1 := by
  have fin : ∀ (a : Nat) (M : Nat → Nat → Int32), b ≤ a → a ≤ n → MT T n M → IWd M → M 67 58 = nI b → M 67 57 = nI a → ∃ M1, px_run (px_mk (kX12_word (px_ex px_tab (d + 1)))) 27 ([some (Value.ref (67)), none, none, none, none], [], (hp (M) (J) (R) (c) (e) nL xs (D))) = some (none, (hp (M1) (J) (R) (c) (e) nL xs (D))) ∧ MK M M1 ∧ TKm b (a, (wtk T b (a - b) 10).1, nI (wtk T b (a - b) 10).2) M1 := by
    intro a M hb ha hT hW h4 h5
    have ck : MK M (px_uR M 67 (upd (M 67) 59 2)) := MK.u (frm.rf _ _ _) 59 (by decide) 2
    obtain ⟨M1, q1, q2, q3⟩ := m_wd_l d J R c e nL xs D (l := a - b) (b := b) hn (by omega) 10 0 (px_uR M 67 (upd (M 67) 59 2)) (by omega) (ck.mt hT) (ck.wd hW) ⟨h4, by rw [show b + (a - b) = a from by omega]; exact h5, rfl, fun q => by
      have q' : (1 : Nat) = 2 ∨ (1 : Nat) = 3 := q
      omega⟩
    rw [show b + (a - b) = a from by omega] at q3
    refine ⟨M1, ?_, frm.tr ck q2, q3⟩
    rw [eX12_word_27]
    exact q1
  intro g
  induction g with
  | zero =>
    intro a M hg hb hT hW h4 h5
    obtain ⟨M1, q1, q2⟩ := fin a M hb (by omega) hT hW h4 h5
    refine ⟨M1, ?_, q2⟩
    rw [xX12_word]
    refine Eq.trans ?_ q1
    rw [eX12_word_0, h5]
    simp (disch := omega) only [px_bd_s, px_psh_s, px_psh_n, px_vb_s, px_ib_s, px_wb_s, px_bo_s, px_bo_n, Bool.cond_decide, cond_true, cond_false, ite_not, Bool.and_true, if_true, if_false, not_true_eq_false, not_false_eq_true, i10, eq_self, decide_true, decide_false, Bool.or_true, Bool.true_or, Bool.or_false, Bool.false_or, Bool.false_eq_true, m_byte _ _ _ _ _ _ _ _ hn M hT, if_neg, eX12_word_0_4, m_isLet_n, eX12_word_0_5]
  | succ g ih =>
    intro a M hg hb hT hW h4 h5
    obtain ⟨t1, t2⟩ := hT.2 a (by omega)
    rw [scn_s]
    by_cases hd : isL T a = true
    · rw [if_pos hd]
      have hd' : 97 ≤ T a ∧ T a ≤ 122 := of_decide_eq_true hd
      have ck : MK M (px_uR M 67 (upd (M 67) 57 (nI (a + 1)))) := MK.u (frm.rf _ _ _) 57 (by decide) _
      obtain ⟨M1, q1, q2, q3⟩ := ih (a + 1) (px_uR M 67 (upd (M 67) 57 (nI (a + 1)))) (by omega) (by omega) (ck.mt hT) (ck.wd hW) h4 rfl
      refine ⟨M1, ?_, frm.tr ck q2, q3⟩
      rw [xX12_word] at q1 ⊢
      refine Eq.trans ?_ q1
      rw [eX12_word_0, h5]
      simp (disch := omega) only [px_bd_s, px_psh_s, px_psh_n, px_vb_s, px_ib_s, px_wb_s, px_bo_s, px_bo_n, Bool.cond_decide, cond_true, cond_false, ite_not, Bool.and_true, if_true, if_false, not_true_eq_false, not_false_eq_true, i10, eq_self, decide_true, decide_false, Bool.or_true, Bool.true_or, Bool.or_false, Bool.false_or, Bool.false_eq_true, m_byte _ _ _ _ _ _ _ _ hn M hT, if_pos, eX12_word_0_4, m_isLet _ _ _ _ _ _ _ _ M t1, hd', and_self, eX12_word_0_5, h5, zp1]
    · rw [if_neg hd]
      have hd' : ¬ (97 ≤ T a ∧ T a ≤ 122) := fun q => hd (decide_eq_true q)
      obtain ⟨M1, q1, q2⟩ := fin a M hb (by omega) hT hW h4 h5
      refine ⟨M1, ?_, q2⟩
      rw [xX12_word]
      refine Eq.trans ?_ q1
      rw [eX12_word_0, h5]
      simp (disch := omega) only [px_bd_s, px_psh_s, px_psh_n, px_vb_s, px_ib_s, px_wb_s, px_bo_s, px_bo_n, Bool.cond_decide, cond_true, cond_false, ite_not, Bool.and_true, if_true, if_false, not_true_eq_false, not_false_eq_true, i10, eq_self, decide_true, decide_false, Bool.or_true, Bool.true_or, Bool.or_false, Bool.false_or, Bool.false_eq_true, m_byte _ _ _ _ _ _ _ _ hn M hT, if_pos, eX12_word_0_4, m_isLet _ _ _ _ _ _ _ _ M t1, hd', eX12_word_0_5]
theorem m_skp {T : Nat → Nat} {n : Nat} (hn : n ≤ 160) : ∀ (g a : Nat) (M : Nat → Nat → Int32), a + g = n → MT T n M → M 67 57 = nI a → ∃ M1, px_run (px_mk (kX12_next (px_ex px_tab (d + 1)))) 0 ([some (Value.ref (67)), none, none], [], (hp (M) (J) (R) (c) (e) nL xs (D))) = px_run (px_mk (kX12_next (px_ex px_tab (d + 1)))) 39 ([some (Value.ref (67)), none, none], [], (hp (M1) (J) (R) (c) (e) nL xs (D))) ∧ MK M M1 ∧ M1 67 57 = nI (scn (isB T) g a)
  | 0, a, M, hg, hT, h5 => by
    refine ⟨M, ?_, frm.rf _ _ _, h5⟩
    rw [eX12_next_0, h5]
    simp (disch := omega) only [px_bd_s, px_psh_s, px_psh_n, px_vb_s, px_ib_s, px_wb_s, px_bo_s, px_bo_n, Bool.cond_decide, cond_true, cond_false, ite_not, Bool.and_true, if_true, if_false, not_true_eq_false, not_false_eq_true, i10, eq_self, decide_true, decide_false, Bool.or_true, Bool.true_or, Bool.or_false, Bool.false_or, Bool.false_eq_true, m_byte _ _ _ _ _ _ _ _ hn M hT, if_neg, eX12_next_0_4, h5, show ¬ (-1 : Int32) = 32 from by decide, eX12_next_0_10, show ¬ (-1 : Int32) = 10 from by decide]
  | g + 1, a, M, hg, hT, h5 => by
    obtain ⟨t1, t2⟩ := hT.2 a (by omega)
    rw [scn_s]
    by_cases hb : isB T a = true
    · rw [if_pos hb]
      have ck : MK M (px_uR M 67 (upd (M 67) 57 (nI (a + 1)))) := MK.u (frm.rf _ _ _) 57 (by decide) _
      obtain ⟨M1, q1, q2, q3⟩ := m_skp hn g (a + 1) (px_uR M 67 (upd (M 67) 57 (nI (a + 1)))) (by omega) (ck.mt hT) rfl
      refine ⟨M1, ?_, frm.tr ck q2, q3⟩
      refine Eq.trans ?_ q1
      rw [eX12_next_0, h5]
      by_cases h1 : T a = 32
      · simp (disch := omega) only [px_bd_s, px_psh_s, px_psh_n, px_vb_s, px_ib_s, px_wb_s, px_bo_s, px_bo_n, Bool.cond_decide, cond_true, cond_false, ite_not, Bool.and_true, if_true, if_false, not_true_eq_false, not_false_eq_true, i10, eq_self, decide_true, decide_false, Bool.or_true, Bool.true_or, Bool.or_false, Bool.false_or, Bool.false_eq_true, m_byte _ _ _ _ _ _ _ _ hn M hT, if_pos, eX12_next_0_4, h5, zs32, h1, eX12_next_26, zp1]
      · have h2 : T a = 10 := (of_decide_eq_true hb).resolve_left h1
        simp (disch := omega) only [px_bd_s, px_psh_s, px_psh_n, px_vb_s, px_ib_s, px_wb_s, px_bo_s, px_bo_n, Bool.cond_decide, cond_true, cond_false, ite_not, Bool.and_true, if_true, if_false, not_true_eq_false, not_false_eq_true, i10, eq_self, decide_true, decide_false, Bool.or_true, Bool.true_or, Bool.or_false, Bool.false_or, Bool.false_eq_true, m_byte _ _ _ _ _ _ _ _ hn M hT, if_pos, eX12_next_0_4, h5, zs32, zs10, h1, h2, show ¬ (10 : Nat) = 32 from by decide, eX12_next_0_10, eX12_next_26, zp1]
    · rw [if_neg hb]
      have h1 : ¬ T a = 32 := fun q => hb (decide_eq_true (Or.inl q))
      have h2 : ¬ T a = 10 := fun q => hb (decide_eq_true (Or.inr q))
      refine ⟨M, ?_, frm.rf _ _ _, h5⟩
      rw [eX12_next_0, h5]
      simp (disch := omega) only [px_bd_s, px_psh_s, px_psh_n, px_vb_s, px_ib_s, px_wb_s, px_bo_s, px_bo_n, Bool.cond_decide, cond_true, cond_false, ite_not, Bool.and_true, if_true, if_false, not_true_eq_false, not_false_eq_true, i10, eq_self, decide_true, decide_false, Bool.or_true, Bool.true_or, Bool.or_false, Bool.false_or, Bool.false_eq_true, m_byte _ _ _ _ _ _ _ _ hn M hT, if_pos, eX12_next_0_4, h5, zs32, zs10, h1, h2, eX12_next_0_10]
theorem mtk_s {t : Nat} (h : 40 ≤ t) : mtk t = t := by
  unfold mtk
  rw [if_neg (by omega), if_neg (by omega), if_neg (by omega)]
theorem m_next {T : Nat → Nat} {n a : Nat} (hn : n ≤ 160) (ha : a ≤ n) (M : Nat → Nat → Int32) (hT : MT T n M) (hW : IWd M) (h5 : M 67 57 = nI a) : ∃ M1, px_ex px_tab (d + 3) 211 [Value.ref (67)] (hp (M) (J) (R) (c) (e) nL xs (D)) = some (none, (hp (M1) (J) (R) (c) (e) nL xs (D))) ∧ MK M M1 ∧ TKm (skp T n a) (tka T n (skp T n a)) M1 := by
  obtain ⟨M0, s1, s2, s3⟩ := m_skp (d + 1) J R c e nL xs D hn (n - a) a M (by omega) hT h5
  have sb := skp_b T ha
  have s3' : M0 67 57 = nI (skp T n a) := s3
  have e0 : px_ex px_tab (d + 3) 211 [Value.ref (67)] (hp (M) (J) (R) (c) (e) nL xs (D)) = px_run (px_mk (kX12_next (px_ex px_tab (d + 2)))) 39 ([some (Value.ref (67)), none, none], [], (hp (M0) (J) (R) (c) (e) nL xs (D))) := by
    rw [xX12_next]
    exact s1
  rw [e0]
  have hT0 := s2.mt hT
  have hW0 := s2.wd hW
  generalize skp T n a = b at sb s3'
  have ckb : MK M0 (px_uR M0 67 (upd (M0 67) 58 (nI b))) := MK.u (frm.rf _ _ _) 58 (by decide) _
  have hTb := ckb.mt hT0
  have mb := m_byte (d + 1) J R c e nL xs D hn _ hTb (k := b) (by omega)
  have e57 : px_uR M0 67 (upd (M0 67) 58 (nI b)) 67 57 = nI b := s3'
  unfold tka
  by_cases h0 : n ≤ b
  · rw [if_pos h0]
    rw [if_neg (show ¬ b < n by omega)] at mb
    have ck := ckb.u 59 (by decide) 0
    rw [px_uR_2] at ck
    refine ⟨_, ?_, frm.tr s2 ck, rfl, s3', rfl, fun q => by
      have q' : (0 : Nat) = 2 ∨ (0 : Nat) = 3 := q
      omega⟩
    rw [eX12_next_39, s3', mb]
    simp only [px_bd_s, px_psh_s, px_psh_n, px_vb_s, px_ib_s, px_wb_s, px_bo_s, px_bo_n, Bool.cond_decide, cond_true, cond_false, ite_not, Bool.and_true, if_true, if_false, not_true_eq_false, not_false_eq_true, i10, eq_self, decide_true, decide_false, Bool.or_true, Bool.true_or, Bool.or_false, Bool.false_or, Bool.false_eq_true, eX12_next_39_8, eX12_next_174]
    rfl
  · rw [if_neg h0]
    rw [if_pos (show b < n by omega)] at mb
    obtain ⟨t1, t2⟩ := hTb.2 b (by omega)
    have nn : ¬ nI (T b) = -1 := nI_n1 (by omega)
    have e1 : px_run (px_mk (kX12_next (px_ex px_tab (d + 2)))) 39 ([some (Value.ref (67)), none, none], [], (hp (M0) (J) (R) (c) (e) nL xs (D))) = px_bd (px_ex px_tab (d + 2) 209 [Value.int (nI (T b))] (hp (px_uR M0 67 (upd (M0 67) 58 (nI b))) (J) (R) (c) (e) nL xs (D))) (fun v G1 => px_p (kX12_next (px_ex px_tab (d + 2))) 69 2 ([some (.ref 67), some (.int (nI (T b))), none], px_psh v [], G1)) := by
      rw [eX12_next_39, s3', mb]
      simp only [px_bd_s, px_psh_s, px_psh_n, px_vb_s, px_ib_s, px_wb_s, px_bo_s, px_bo_n, Bool.cond_decide, cond_true, cond_false, ite_not, Bool.and_true, if_true, if_false, not_true_eq_false, not_false_eq_true, i10, eq_self, decide_true, decide_false, Bool.or_true, Bool.true_or, Bool.or_false, Bool.false_or, Bool.false_eq_true, eX12_next_39_8, nn, eX12_next_69]
    rw [e1]
    simp (disch := omega) only [px_bd_s, px_psh_s, px_psh_n, px_vb_s, px_ib_s, px_wb_s, px_bo_s, px_bo_n, Bool.cond_decide, cond_true, cond_false, ite_not, Bool.and_true, if_true, if_false, not_true_eq_false, not_false_eq_true, i10, eq_self, decide_true, decide_false, Bool.or_true, Bool.true_or, Bool.or_false, Bool.false_or, Bool.false_eq_true, m_isLet _ _ _ _ _ _ _ _ _ t1]
    by_cases h1 : isL T b = true
    · have h1' : 97 ≤ T b ∧ T b ≤ 122 := of_decide_eq_true h1
      rw [if_pos h1]
      obtain ⟨M1, q1, q2, q3⟩ := m_word d J R c e nL xs D (b := b) hn (n - b) b (px_uR M0 67 (upd (M0 67) 58 (nI b))) (by omega) (Nat.le_refl _) hTb (ckb.wd hW0) rfl s3'
      refine ⟨M1, ?_, frm.tr s2 (frm.tr ckb q2), q3⟩
      simp only [px_bd_s, px_psh_s, px_psh_n, px_vb_s, px_ib_s, px_wb_s, px_bo_s, px_bo_n, Bool.cond_decide, cond_true, cond_false, ite_not, Bool.and_true, if_true, if_false, not_true_eq_false, not_false_eq_true, i10, eq_self, decide_true, decide_false, Bool.or_true, Bool.true_or, Bool.or_false, Bool.false_or, Bool.false_eq_true, h1', and_self, eX12_next_69_2, q1, eX12_next_69_5, eX12_next_174]
    · have h1' : ¬ (97 ≤ T b ∧ T b ≤ 122) := fun q => h1 (decide_eq_true q)
      rw [if_neg h1]
      have e2 : px_p (kX12_next (px_ex px_tab (d + 2))) 69 2 ([some (Value.ref (67)), some (Value.int (nI (T b))), none], [Value.int (0)], (hp (px_uR M0 67 (upd (M0 67) 58 (nI b))) (J) (R) (c) (e) nL xs (D))) = px_bd (px_ex px_tab (d + 2) 210 [Value.int (nI (T b))] (hp (px_uR M0 67 (upd (M0 67) 58 (nI b))) (J) (R) (c) (e) nL xs (D))) (fun v G1 => px_p (kX12_next (px_ex px_tab (d + 2))) 83 2 ([some (.ref 67), some (.int (nI (T b))), none], px_psh v [], G1)) := by
        rw [eX12_next_69_2]
        simp only [px_bd_s, px_psh_s, px_psh_n, px_vb_s, px_ib_s, px_wb_s, px_bo_s, px_bo_n, Bool.cond_decide, cond_true, cond_false, ite_not, Bool.and_true, if_true, if_false, not_true_eq_false, not_false_eq_true, i10, eq_self, decide_true, decide_false, Bool.or_true, Bool.true_or, Bool.or_false, Bool.false_or, Bool.false_eq_true, eX12_next_83]
      rw [if_neg h1', e2]
      simp (disch := omega) only [px_bd_s, px_psh_s, px_psh_n, px_vb_s, px_ib_s, px_wb_s, px_bo_s, px_bo_n, Bool.cond_decide, cond_true, cond_false, ite_not, Bool.and_true, if_true, if_false, not_true_eq_false, not_false_eq_true, i10, eq_self, decide_true, decide_false, Bool.or_true, Bool.true_or, Bool.or_false, Bool.false_or, Bool.false_eq_true, m_isDig _ _ _ _ _ _ _ _ _ t1]
      by_cases h2 : isD T b = true
      · have h2' : 48 ≤ T b ∧ T b ≤ 57 := of_decide_eq_true h2
        rw [if_pos h2]
        have ck2 : MK M0 (px_uR M0 67 (upd (upd (M0 67) 58 (nI b)) 60 0)) := by
          have := ckb.u 60 (by decide) 0
          rw [px_uR_2] at this
          exact this
        obtain ⟨M1, q1, q2, q3⟩ := m_num_l d J R c e nL xs D (b := b) hn (n - b) b (px_uR M0 67 (upd (upd (M0 67) 58 (nI b)) 60 0)) (by omega) (Nat.le_refl _) (ck2.mt hT0) rfl s3' (by
          rw [Nat.sub_self]
          rfl)
        refine ⟨M1, ?_, frm.tr s2 (frm.tr ck2 q2), q3⟩
        have nb : px_ex px_tab (d + 2) 212 [Value.ref (67)] (hp (px_uR M0 67 (upd (M0 67) 58 (nI b))) (J) (R) (c) (e) nL xs (D)) = some (none, (hp (M1) (J) (R) (c) (e) nL xs (D))) := by
          rw [xX12_number, eX12_number_0]
          exact q1
        simp only [px_bd_s, px_psh_s, px_psh_n, px_vb_s, px_ib_s, px_wb_s, px_bo_s, px_bo_n, Bool.cond_decide, cond_true, cond_false, ite_not, Bool.and_true, if_true, if_false, not_true_eq_false, not_false_eq_true, i10, eq_self, decide_true, decide_false, Bool.or_true, Bool.true_or, Bool.or_false, Bool.false_or, Bool.false_eq_true, h2', and_self, eX12_next_83_2, nb, eX12_next_83_5, eX12_next_174]
      · have h2' : ¬ (48 ≤ T b ∧ T b ≤ 57) := fun q => h2 (decide_eq_true q)
        rw [if_neg h2]
        have ev : (if isB T b = true then 1 else if T b = 40 ∨ T b = 41 ∨ T b = 42 ∨ T b = 43 ∨ T b = 45 ∨ T b = 59 ∨ T b = 60 ∨ T b = 61 then T b else 1) = if T b = 40 ∨ T b = 41 ∨ T b = 42 ∨ T b = 43 ∨ T b = 45 ∨ T b = 59 ∨ T b = 60 ∨ T b = 61 then T b else 1 := by
          by_cases hB : isB T b = true
          · have := of_decide_eq_true hB
            rw [if_pos hB, if_neg (by omega)]
          · rw [if_neg hB]
        rw [ev, if_neg h2', eX12_next_83_2]
        have e97 : px_run (px_mk (kX12_next (px_ex px_tab (d + 2)))) 97 ([some (Value.ref (67)), some (Value.int (nI (T b))), none], [], (hp (px_uR M0 67 (upd (M0 67) 58 (nI b))) (J) (R) (c) (e) nL xs (D))) = px_run (px_mk (kX12_next (px_ex px_tab (d + 2)))) 150 ([some (Value.ref (67)), some (Value.int (nI (T b))), none], [Value.int (if T b = 40 ∨ T b = 41 ∨ T b = 42 ∨ T b = 43 ∨ T b = 45 ∨ T b = 59 ∨ T b = 60 ∨ T b = 61 then 1 else 0)], (hp (px_uR M0 67 (upd (M0 67) 58 (nI b))) (J) (R) (c) (e) nL xs (D))) := by
          rw [eX12_next_97, eX12_next_145, eX12_next_149]
          by_cases hS : T b = 40 ∨ T b = 41 ∨ T b = 42 ∨ T b = 43 ∨ T b = 45 ∨ T b = 59 ∨ T b = 60 ∨ T b = 61
          · rcases hS with q | q | q | q | q | q | q | q <;> (rw [q]; rfl)
          · rw [if_neg hS]
            have hk : ∀ k, k < 256 → T b ≠ k → decide (nI (T b) = nI k) = false := fun k h3 h4 => decide_eq_false fun h5 => h4 ((nI_eq (by omega) (by omega)).mp h5)
            rw [show decide (nI (T b) = (40 : Int32)) = false from hk 40 (by decide) (by omega), show decide (nI (T b) = (41 : Int32)) = false from hk 41 (by decide) (by omega), show decide (nI (T b) = (59 : Int32)) = false from hk 59 (by decide) (by omega), show decide (nI (T b) = (43 : Int32)) = false from hk 43 (by decide) (by omega), show decide (nI (T b) = (45 : Int32)) = false from hk 45 (by decide) (by omega), show decide (nI (T b) = (42 : Int32)) = false from hk 42 (by decide) (by omega), show decide (nI (T b) = (60 : Int32)) = false from hk 60 (by decide) (by omega)]
            have h61 : decide (¬ nI (T b) = (61 : Int32)) = true := decide_eq_true fun q => by
              have := (nI_eq (b := 61) (by omega) (by decide)).mp q
              omega
            rw [h61]
            rfl
        simp only [px_bd_s, px_psh_s, px_psh_n, px_vb_s, px_ib_s, px_wb_s, px_bo_s, px_bo_n, Bool.cond_decide, cond_true, cond_false, ite_not, Bool.and_true, if_true, if_false, not_true_eq_false, not_false_eq_true, i10, eq_self, decide_true, decide_false, Bool.or_true, Bool.true_or, Bool.or_false, Bool.false_or, Bool.false_eq_true]
        rw [e97, eX12_next_150]
        by_cases hS : T b = 40 ∨ T b = 41 ∨ T b = 42 ∨ T b = 43 ∨ T b = 45 ∨ T b = 59 ∨ T b = 60 ∨ T b = 61
        · rw [if_pos hS, if_pos hS]
          have ck := (ckb.u 59 (by decide) (nI (T b))).u 57 (by decide) (nI (b + 1))
          rw [px_uR_2, px_uR_2] at ck
          refine ⟨_, ?_, frm.tr s2 ck, rfl, rfl, ?_, fun q => ?_⟩
          · simp only [px_bd_s, px_psh_s, px_psh_n, px_vb_s, px_ib_s, px_wb_s, px_bo_s, px_bo_n, Bool.cond_decide, cond_true, cond_false, ite_not, Bool.and_true, if_true, if_false, not_true_eq_false, not_false_eq_true, i10, eq_self, decide_true, decide_false, Bool.or_true, Bool.true_or, Bool.or_false, Bool.false_or, Bool.false_eq_true, eX12_next_161, e57, zp1, eX12_next_174]
            rfl
          · show nI (T b) = nI (mtk (T b))
            rw [mtk_s (by omega)]
          · have q' : T b = 2 ∨ T b = 3 := q
            omega
        · rw [if_neg hS, if_neg hS]
          have ck := (ckb.u 59 (by decide) 2).u 57 (by decide) (nI (b + 1))
          rw [px_uR_2, px_uR_2] at ck
          refine ⟨_, ?_, frm.tr s2 ck, rfl, rfl, rfl, fun q => ?_⟩
          · simp only [px_bd_s, px_psh_s, px_psh_n, px_vb_s, px_ib_s, px_wb_s, px_bo_s, px_bo_n, Bool.cond_decide, cond_true, cond_false, ite_not, Bool.and_true, if_true, if_false, not_true_eq_false, not_false_eq_true, i10, eq_self, decide_true, decide_false, Bool.or_true, Bool.true_or, Bool.or_false, Bool.false_or, Bool.false_eq_true, eX12_next_160, eX12_next_161, e57, zp1, eX12_next_174]
            rfl
          · have q' : (1 : Nat) = 2 ∨ (1 : Nat) = 3 := q
            omega
end S82
