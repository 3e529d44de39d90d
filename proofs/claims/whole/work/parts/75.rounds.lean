/-! PART 75: the class fits a round -/
/-- where the marks were told to be -/
def ICd (s : Sv) (M : Nat → Nat → Int32) : Prop := ∀ i, i < Sm s → M 15 i = iI (Sx s i) ∧ M 16 i = iI (Sy s i) ∧ M 17 i = (if Sf s i = true then 1 else 0)
/-- what the fitting of round r leaves as it was -/
def FK (r : Nat) (M M1 : Nat → Nat → Int32) : Prop := frm [14, 21, 22, 25, 26, 27] [] M M1 ∧ (∀ k, k ≠ 14 → M1 14 k = M 14 k) ∧ ∀ j, j < 8 * r → M1 21 j = M 21 j ∧ M1 22 j = M 22 j
theorem FK.rf (r : Nat) (M : Nat → Nat → Int32) : FK r M M := ⟨frm.rf _ _ _, fun _ _ => rfl, fun _ _ => ⟨rfl, rfl⟩⟩
theorem FK.tr {r : Nat} {M M1 M2 : Nat → Nat → Int32} (h : FK r M M1) (h2 : FK r M1 M2) : FK r M M2 := ⟨h.1.tr h2.1, fun k hk => (h2.2.1 k hk).trans (h.2.1 k hk), fun j hj => ⟨((h2.2.2 j hj).1).trans (h.2.2 j hj).1, ((h2.2.2 j hj).2).trans (h.2.2 j hj).2⟩⟩
theorem FK.t {s : Sv} {r : Nat} {M M1 : Nat → Nat → Int32} (h : FK r M M1) (hI : ICt s M) : ICt s M1 := by
  unfold ICt
  rw [h.2.1 0 (by decide), h.2.1 1 (by decide), h.1.1 18 (by decide) (by decide), h.1.1 19 (by decide) (by decide), h.1.1 20 (by decide) (by decide)]
  exact hI
theorem FK.o {s : Sv} {r : Nat} {o : Nat → Bool} {M M1 : Nat → Nat → Int32} (h : FK r M M1) (hI : ICo s r o M) : ICo s r o M1 := by
  unfold ICo
  rw [h.1.1 24 (by decide) (by decide)]
  exact hI
theorem FK.d {s : Sv} {r : Nat} {M M1 : Nat → Nat → Int32} (h : FK r M M1) (hI : ICd s M) : ICd s M1 := by
  unfold ICd
  rw [h.1.1 15 (by decide) (by decide), h.1.1 16 (by decide) (by decide), h.1.1 17 (by decide) (by decide)]
  exact hI
section S75
variable (d : Nat) (M : Nat → Nat → Int32) (J : Nat → Nat → Int64) (R : Nat → Nat → Option Nat) (c e nL : Nat) (xs : Nat → Int32) (D : px_H)
theorem c_told_l {s : Sv} {r : Nat} (hs : ISt s) (hI : ICt s M) (ht : ICd s M) (hr : r ≤ 24) : ∀ (g k : Nat) (M' : Nat → Nat → Int32), k + g = Sm s → FK r M M' → (∀ i, i < k → M' 21 (8 * r + i) = iI (Sx s i) ∧ M' 22 (8 * r + i) = iI (Sy s i)) → ∃ M1, px_run (px_mk (kX7_goToTold (px_ex px_tab d))) 2 ([some (Value.ref (14)), some (Value.int (nI r)), some (Value.int (nI k))], [], (hp (M') (J) (R) (c) (e) nL xs (D))) = some (none, (hp (M1) (J) (R) (c) (e) nL xs (D))) ∧ FK r M M1 ∧ ICp s r (sv_stp s (fun _ => false) 0) M1
  | 0, k, M', hk, hf, hq => by
    have h8 := hs.1
    refine ⟨M', ?_, hf, fun i hi => hq i (by omega)⟩
    rw [eX7_goToTold_2]
    simp (disch := omega) only [px_bd_s, px_psh_s, px_psh_n, px_vb_s, px_ib_s, px_wb_s, px_bo_s, px_bo_n, Bool.cond_decide, cond_true, cond_false, ite_not, Bool.and_true, if_true, if_false, not_true_eq_false, not_false_eq_true, i10, eq_self, decide_true, decide_false, Bool.or_true, Bool.true_or, Bool.or_false, Bool.false_or, Bool.false_eq_true, hf.2.1 0 (by decide), hI.1, nI_leI, if_pos, eX7_goToTold_50]
  | g + 1, k, M', hk, hf, hq => by
    have h8 := hs.1
    obtain ⟨t1, t2, t3⟩ := hf.d ht k (by omega)
    have e8 : (8 : Int32) * nI r = nI (8 * r) := pk_mul 8 r
    obtain ⟨M1, r1, r2, r3⟩ := c_told_l hs hI ht hr g (k + 1) (px_uR (px_uR M' 21 (upd (M' 21) (8 * r + k) (iI (Sx s k)))) 22 (upd (M' 22) (8 * r + k) (iI (Sy s k)))) (by omega) ⟨(hf.1.u 21 _ (by decide) (by decide)).u 22 _ (by decide) (by decide), hf.2.1, fun j hj => by
        show upd (M' 21) (8 * r + k) (iI (Sx s k)) j = M 21 j ∧ upd (M' 22) (8 * r + k) (iI (Sy s k)) j = M 22 j
        rw [pk_un (by omega), pk_un (by omega)]
        exact hf.2.2 j hj⟩ (fun i hi => by
      show upd (M' 21) (8 * r + k) (iI (Sx s k)) (8 * r + i) = iI (Sx s i) ∧ upd (M' 22) (8 * r + k) (iI (Sy s k)) (8 * r + i) = iI (Sy s i)
      by_cases ei : i = k
      · subst ei
        rw [pk_us, pk_us]
        exact ⟨rfl, rfl⟩
      · rw [pk_un (by omega), pk_un (by omega)]
        exact hq i (by omega))
    refine ⟨M1, ?_, r2, r3⟩
    refine Eq.trans ?_ r1
    rw [eX7_goToTold_2]
    simp (disch := omega) only [px_bd_s, px_psh_s, px_psh_n, px_vb_s, px_ib_s, px_wb_s, px_bo_s, px_bo_n, Bool.cond_decide, cond_true, cond_false, ite_not, Bool.and_true, if_true, if_false, not_true_eq_false, not_false_eq_true, i10, eq_self, decide_true, decide_false, Bool.or_true, Bool.true_or, Bool.or_false, Bool.false_or, Bool.false_eq_true, hf.2.1 0 (by decide), hI.1, nI_leI, if_neg, px_inbT, nI_clamp, e8, nI_add, t1, t2, zp1]
theorem c_swp {s : Sv} {r w : Nat} {o : Nat → Bool} {p : Nat → Int × Int} {B : Nat} (hs : ISt s) (hI : ICt s M) (ht : ICd s M) (ho : ICo s r o M) (hr24 : r ≤ 24) (hr : rng s B p) (hB : B + w ≤ 9092) (hw : 1 ≤ w) (hw2 : w ≤ 512) (t : Nat) : ∀ (g k : Nat) (fl : Int32) (M' : Nat → Nat → Int32), k + g = Sm s → FK r M M' → ICp s r (sv_swp s o w p k) M' → (fl = 1 ∨ fl = 0 ∧ sv_swp s o w p k = p) → ∃ M1 fl', px_run (px_mk (kX7_fitIfNew (px_ex px_tab (d + 3)))) 43 ([some (Value.ref (14)), some (Value.int (nI r)), some (Value.int (nI w)), some (Value.int (fl)), some (Value.int (nI t)), some (Value.int (nI k))], [], (hp (M') (J) (R) (c) (e) nL xs (D))) = px_run (px_mk (kX7_fitIfNew (px_ex px_tab (d + 3)))) 28 ([some (Value.ref (14)), some (Value.int (nI r)), some (Value.int (nI w)), some (Value.int (fl')), some (Value.int (nI (t + 1))), none], [], (hp (M1) (J) (R) (c) (e) nL xs (D))) ∧ FK r M M1 ∧ ICp s r (sv_swp s o w p (Sm s)) M1 ∧ (fl' = 1 ∨ fl' = 0 ∧ sv_swp s o w p (Sm s) = p)
  | 0, k, fl, M', hk, hf, hq, hfl => by
    have h8 := hs.1
    rw [show k = Sm s from by omega] at hq hfl ⊢
    refine ⟨M', fl, ?_, hf, hq, hfl⟩
    rw [eX7_fitIfNew_43]
    simp (disch := omega) only [px_bd_s, px_psh_s, px_psh_n, px_vb_s, px_ib_s, px_wb_s, px_bo_s, px_bo_n, Bool.cond_decide, cond_true, cond_false, ite_not, Bool.and_true, if_true, if_false, not_true_eq_false, not_false_eq_true, i10, eq_self, decide_true, decide_false, Bool.or_true, Bool.true_or, Bool.or_false, Bool.false_or, Bool.false_eq_true, hf.2.1 0 (by decide), hI.1, nI_leI, if_pos, Nat.le_refl, eX7_fitIfNew_81, zp1]
  | g + 1, k, fl, M', hk, hf, hq, hfl => by
    have h8 := hs.1
    obtain ⟨t1, t2, t3⟩ := hf.d ht k (by omega)
    have x0 : ¬ nI (Sm s) ≤ nI k := fun q => by
      have := (nI_leI (by omega) (by omega)).mp q
      omega
    by_cases hx : Sf s k = true
    · have es : sv_swp s o w p (k + 1) = sv_swp s o w p k := by rw [sv_swp_s, if_pos hx]
      obtain ⟨M1, fl', r1, r2⟩ := c_swp hs hI ht ho hr24 hr hB hw hw2 t g (k + 1) fl M' (by omega) hf (by rw [es]; exact hq) (by rw [es]; exact hfl)
      refine ⟨M1, fl', ?_, r2⟩
      refine Eq.trans ?_ r1
      rw [eX7_fitIfNew_43]
      simp (disch := omega) only [px_bd_s, px_psh_s, px_psh_n, px_vb_s, px_ib_s, px_wb_s, px_bo_s, px_bo_n, Bool.cond_decide, cond_true, cond_false, ite_not, Bool.and_true, if_true, if_false, not_true_eq_false, not_false_eq_true, i10, eq_self, decide_true, decide_false, Bool.or_true, Bool.true_or, Bool.or_false, Bool.false_or, Bool.false_eq_true, hf.2.1 0 (by decide), hI.1, x0, px_inbT, nI_clamp, t3, hx, eX7_fitIfNew_75, zp1]
    · have es : sv_swp s o w p (k + 1) = sv_go s o w (sv_swp s o w p k) k := by rw [sv_swp_s, if_neg hx]
      have pb := hr k (by omega)
      obtain ⟨M0, g1, g2, g3, g4, g5⟩ := c_move d M' J R c e nL xs D (w := w) (o := o) hs (hf.t hI) (m := k) (by omega) hr24 hq (hf.o ho) ((sv_swp_b s o hr k (by omega)).mono hB) hw hw2 (by rw [sv_swp_o s o w p k k (Nat.le_refl _)]; omega)
      by_cases hz : (sv_nine s o (sv_swp s o w p k) k w 9).1 = sv_swp s o w p k k
      · have eg : sv_go s o w (sv_swp s o w p k) k = sv_swp s o w p k := by
          unfold sv_go
          rw [hz, ups_id]
        obtain ⟨M1, fl', r1, r2⟩ := c_swp hs hI ht ho hr24 hr hB hw hw2 t g (k + 1) fl M0 (by omega) (hf.tr ⟨g2, g3, g5⟩) (by rw [es]; exact g4) (by rw [es, eg]; exact hfl)
        refine ⟨M1, fl', ?_, r2⟩
        refine Eq.trans ?_ r1
        rw [if_pos hz] at g1
        rw [eX7_fitIfNew_43]
        simp (disch := omega) only [px_bd_s, px_psh_s, px_psh_n, px_vb_s, px_ib_s, px_wb_s, px_bo_s, px_bo_n, Bool.cond_decide, cond_true, cond_false, ite_not, Bool.and_true, if_true, if_false, not_true_eq_false, not_false_eq_true, i10, eq_self, decide_true, decide_false, Bool.or_true, Bool.true_or, Bool.or_false, Bool.false_or, Bool.false_eq_true, hf.2.1 0 (by decide), hI.1, x0, px_inbT, nI_clamp, t3, hx, g1, eX7_fitIfNew_43_14, eX7_fitIfNew_75, zp1]
      · obtain ⟨M1, fl', r1, r2⟩ := c_swp hs hI ht ho hr24 hr hB hw hw2 t g (k + 1) 1 M0 (by omega) (hf.tr ⟨g2, g3, g5⟩) (by rw [es]; exact g4) (Or.inl rfl)
        refine ⟨M1, fl', ?_, r2⟩
        refine Eq.trans ?_ r1
        rw [if_neg hz] at g1
        rw [eX7_fitIfNew_43]
        simp (disch := omega) only [px_bd_s, px_psh_s, px_psh_n, px_vb_s, px_ib_s, px_wb_s, px_bo_s, px_bo_n, Bool.cond_decide, cond_true, cond_false, ite_not, Bool.and_true, if_true, if_false, not_true_eq_false, not_false_eq_true, i10, eq_self, decide_true, decide_false, Bool.or_true, Bool.true_or, Bool.or_false, Bool.false_or, Bool.false_eq_true, hf.2.1 0 (by decide), hI.1, x0, px_inbT, nI_clamp, t3, hx, g1, eX7_fitIfNew_43_14, eX7_fitIfNew_75, zp1]
theorem c_tms {s : Sv} {r w : Nat} {o : Nat → Bool} {p : Nat → Int × Int} {B : Nat} (hs : ISt s) (hI : ICt s M) (ht : ICd s M) (ho : ICo s r o M) (hr24 : r ≤ 24) (hr : rng s B p) (hB : B + 4 * w ≤ 9092) (hw : 1 ≤ w) (hw2 : w ≤ 512) : ∀ (g t : Nat) (fl : Int32) (M' : Nat → Nat → Int32) (o5 : Option Value), t + g = 4 → FK r M M' → ICp s r (sv_tms s o w p t) M' → (fl = 1 ∨ fl = 0 ∧ sv_tms s o w p 4 = sv_tms s o w p t) → ∃ M1, px_run (px_mk (kX7_fitIfNew (px_ex px_tab (d + 3)))) 28 ([some (Value.ref (14)), some (Value.int (nI r)), some (Value.int (nI w)), some (Value.int (fl)), some (Value.int (nI t)), o5], [], (hp (M') (J) (R) (c) (e) nL xs (D))) = px_run (px_mk (kX7_fitIfNew (px_ex px_tab (d + 3)))) 18 ([some (Value.ref (14)), some (Value.int (nI r)), some (Value.int (nI w / 2)), none, none, none], [], (hp (M1) (J) (R) (c) (e) nL xs (D))) ∧ FK r M M1 ∧ ICp s r (sv_tms s o w p 4) M1
  | 0, t, fl, M', o5, hk, hf, hq, hfl => by
    rw [show t = 4 from by omega] at hq ⊢
    refine ⟨M', ?_, hf, hq⟩
    rw [eX7_fitIfNew_28]
    simp only [px_bd_s, px_psh_s, px_psh_n, px_vb_s, px_ib_s, px_wb_s, px_bo_s, px_bo_n, Bool.cond_decide, cond_true, cond_false, ite_not, Bool.and_true, if_true, if_false, not_true_eq_false, not_false_eq_true, i10, eq_self, decide_true, decide_false, Bool.or_true, Bool.true_or, Bool.or_false, Bool.false_or, Bool.false_eq_true, show (4 : Int32) ≤ nI 4 from by decide, eX7_fitIfNew_87]
  | g + 1, t, fl, M', o5, hk, hf, hq, hfl => by
    have h4 : ¬ (4 : Int32) ≤ nI t := fun q => by
      have := (za4 (i := t) (by omega)).mp q
      omega
    rcases hfl with rfl | ⟨rfl, hfx⟩
    · have hb := sv_tms_b s o (w := w) hr t
      have hb2 : B + t * w + w ≤ 9092 := by
        have : t * w ≤ 3 * w := Nat.mul_le_mul_right w (by omega)
        omega
      obtain ⟨M0, fl', q1, q2, q3, q4⟩ := c_swp d M J R c e nL xs D hs hI ht ho hr24 hb hb2 hw hw2 t (Sm s) 0 0 M' (by omega) hf hq (Or.inr ⟨rfl, rfl⟩)
      obtain ⟨M1, r1, r2, r3⟩ := c_tms hs hI ht ho hr24 hr hB hw hw2 g (t + 1) fl' M0 none (by omega) q2 q3 (by
        rcases q4 with k | ⟨k, k2⟩
        · exact Or.inl k
        · refine Or.inr ⟨k, ?_⟩
          have f1 := sv_tms_fix s o w p t k2 (g + 1)
          rw [show t + (g + 1) = 4 from by omega] at f1
          rw [f1, sv_tms_s, k2])
      refine ⟨M1, ?_, r2, r3⟩
      refine Eq.trans ?_ r1
      refine Eq.trans ?_ q1
      rw [eX7_fitIfNew_28]
      simp only [px_bd_s, px_psh_s, px_psh_n, px_vb_s, px_ib_s, px_wb_s, px_bo_s, px_bo_n, Bool.cond_decide, cond_true, cond_false, ite_not, Bool.and_true, if_true, if_false, not_true_eq_false, not_false_eq_true, i10, eq_self, decide_true, decide_false, Bool.or_true, Bool.true_or, Bool.or_false, Bool.false_or, Bool.false_eq_true, h4]
      rfl
    · rw [← hfx] at hq
      refine ⟨M', ?_, hf, hq⟩
      rw [eX7_fitIfNew_28]
      simp only [px_bd_s, px_psh_s, px_psh_n, px_vb_s, px_ib_s, px_wb_s, px_bo_s, px_bo_n, Bool.cond_decide, cond_true, cond_false, ite_not, Bool.and_true, if_true, if_false, not_true_eq_false, not_false_eq_true, i10, eq_self, decide_true, decide_false, Bool.or_true, Bool.true_or, Bool.or_false, Bool.false_or, Bool.false_eq_true, h4, eX7_fitIfNew_87]
theorem hf_3 : ∀ k, k < 10 → ¬ nI (512 / 2 ^ k) < 1 := by decide
theorem hf_4 : ∀ k, k < 10 → 1 ≤ 512 / 2 ^ k ∧ 512 / 2 ^ k ≤ 512 := by decide
theorem c_stp {s : Sv} {r : Nat} {o : Nat → Bool} (hs : ISt s) (hI : ICt s M) (ht : ICd s M) (ho : ICo s r o M) (hr24 : r ≤ 24) (hr : rg5 s) : ∀ (g k : Nat) (M' : Nat → Nat → Int32) (o3 o4 o5 : Option Value), k + g = 10 → FK r M M' → ICp s r (sv_stp s o k) M' → ∃ M1, px_run (px_mk (kX7_fitIfNew (px_ex px_tab (d + 3)))) 18 ([some (Value.ref (14)), some (Value.int (nI r)), some (Value.int (nI (512 / 2 ^ k))), o3, o4, o5], [], (hp (M') (J) (R) (c) (e) nL xs (D))) = px_run (px_mk (kX7_fitIfNew (px_ex px_tab (d + 3)))) 94 ([some (Value.ref (14)), some (Value.int (nI r)), some (Value.int (0)), none, none, none], [], (hp (M1) (J) (R) (c) (e) nL xs (D))) ∧ FK r M M1 ∧ ICp s r (sv_fit s o) M1
  | 0, k, M', o3, o4, o5, hk, hf, hq => by
    rw [show k = 10 from by omega] at hq ⊢
    refine ⟨M', ?_, hf, hq⟩
    rw [eX7_fitIfNew_18]
    simp only [px_bd_s, px_psh_s, px_psh_n, px_vb_s, px_ib_s, px_wb_s, px_bo_s, px_bo_n, Bool.cond_decide, cond_true, cond_false, ite_not, Bool.and_true, if_true, if_false, not_true_eq_false, not_false_eq_true, i10, eq_self, decide_true, decide_false, Bool.or_true, Bool.true_or, Bool.or_false, Bool.false_or, Bool.false_eq_true, show nI (512 / 2 ^ 10) < 1 from by decide]
    rfl
  | g + 1, k, M', o3, o4, o5, hk, hf, hq => by
    have hb := sv_stp_b s o hr k (by omega)
    have hb2 : 5000 + 4 * (1024 - 1024 / 2 ^ k) + 4 * (512 / 2 ^ k) ≤ 9092 := by
      rcases (by omega : k = 0 ∨ k = 1 ∨ k = 2 ∨ k = 3 ∨ k = 4 ∨ k = 5 ∨ k = 6 ∨ k = 7 ∨ k = 8 ∨ k = 9) with rfl | rfl | rfl | rfl | rfl | rfl | rfl | rfl | rfl | rfl <;> decide
    obtain ⟨w1, w2⟩ := hf_4 k (by omega)
    obtain ⟨M0, q1, q2, q3⟩ := c_tms d M J R c e nL xs D hs hI ht ho hr24 hb hb2 w1 w2 4 0 1 M' none (by omega) hf hq (Or.inl rfl)
    obtain ⟨M1, r1, r2, r3⟩ := c_stp hs hI ht ho hr24 hr g (k + 1) M0 none none none (by omega) q2 q3
    refine ⟨M1, ?_, r2, r3⟩
    refine Eq.trans ?_ r1
    rw [hf_1 k (by omega)] at q1
    refine Eq.trans ?_ q1
    rw [eX7_fitIfNew_18]
    simp only [px_bd_s, px_psh_s, px_psh_n, px_vb_s, px_ib_s, px_wb_s, px_bo_s, px_bo_n, Bool.cond_decide, cond_true, cond_false, ite_not, Bool.and_true, if_true, if_false, not_true_eq_false, not_false_eq_true, i10, eq_self, decide_true, decide_false, Bool.or_true, Bool.true_or, Bool.or_false, Bool.false_or, Bool.false_eq_true, hf_3 k (by omega)]
    rfl
end S75
