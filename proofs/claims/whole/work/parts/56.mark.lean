/-! PART 56: MARK, TAPE, TAPES -/
theorem rg_I {x : Int32} (h : -5000 ≤ x ∧ x ≤ 5000) : -5000 ≤ x.toInt ∧ x.toInt ≤ 5000 := by
  have h1 := Int32.le_iff_toInt_le.mp h.1
  have h2 := Int32.le_iff_toInt_le.mp h.2
  exact ⟨h1, h2⟩
def ups' {α : Type} (f : Nat → α) (k : Nat) (v : α) : Nat → α := fun j => if j = k then v else f j
theorem ups'_s {α : Type} (f : Nat → α) (k : Nat) (v : α) : ups' f k v k = v := if_pos rfl
theorem ups'_n {α : Type} (f : Nat → α) (v : α) {k j : Nat} (h : j ≠ k) : ups' f k v j = f j := if_neg h
section S56
variable (d : Nat) (M : Nat → Nat → Int32) (J : Nat → Nat → Int64) (R : Nat → Nat → Option Nat) (c e nL : Nat) (xs : Nat → Int32) (D : px_H)
theorem m_isMark (v : Int32) : px_ex px_tab (d + 2) 166 [Value.ref (67), Value.int (v)] (hp (M) (J) (R) (c) (e) nL xs (D)) = some (some (Value.int (px_in v 0 (M 67 0 - 1))), (hp (M) (J) (R) (c) (e) nL xs (D))) := by
  rw [xX12_isMark]
  simp only [px_bd_s, px_psh_s, px_psh_n, px_vb_s, px_ib_s, px_wb_s, px_bo_s, px_bo_n, Bool.cond_decide, cond_true, cond_false, ite_not, Bool.and_true, if_true, if_false, not_true_eq_false, not_false_eq_true, i10, eq_self, decide_true, decide_false, Bool.or_true, Bool.true_or, Bool.or_false, Bool.false_or, eX12_isMark_0, c_in]
  unfold px_in
  split <;> simp [eX12_isMark_0, eX12_isMark_0_7]
theorem c_hasMark {m : Nat} (hm : m ≤ 8) (h0 : M 14 0 = nI m) (v : Int32) : px_ex px_tab (d + 1) 82 [Value.ref (14), Value.int (v)] (hp (M) (J) (R) (c) (e) nL xs (D)) = some (some (Value.int (px_in v 0 (nI m - 1))), (hp (M) (J) (R) (c) (e) nL xs (D))) := by
  rw [xX7_hasMark]
  simp only [px_bd_s, px_psh_s, px_psh_n, px_vb_s, px_ib_s, px_wb_s, px_bo_s, px_bo_n, Bool.cond_decide, cond_true, cond_false, ite_not, Bool.and_true, if_true, if_false, not_true_eq_false, not_false_eq_true, i10, eq_self, decide_true, decide_false, Bool.or_true, Bool.true_or, Bool.or_false, Bool.false_or, eX7_hasMark_0, h0]
  rcases pk_ix v (n := m) (by omega) with h | h | ⟨i, hi, rfl⟩
  · rw [in_n (n := m) (by omega) (Or.inl h)]
    simp [h, eX7_hasMark_0, eX7_hasMark_16, eX7_hasMark_17]
  · rw [in_n (n := m) (by omega) (Or.inr h)]
    by_cases h2 : v < 0
    · simp [h2, eX7_hasMark_0, eX7_hasMark_16, eX7_hasMark_17]
    · simp [h, h2, eX7_hasMark_0, eX7_hasMark_16, eX7_hasMark_17]
  · rw [in_y hi (by omega)]
    simp (disch := omega) only [px_bd_s, px_psh_s, px_psh_n, px_vb_s, px_ib_s, px_wb_s, px_bo_s, px_bo_n, Bool.cond_decide, cond_true, cond_false, ite_not, Bool.and_true, if_true, if_false, not_true_eq_false, not_false_eq_true, i10, eq_self, decide_true, decide_false, Bool.or_true, Bool.true_or, Bool.or_false, Bool.false_or, za0, zb0, zc0, zd0, ze0, zf0, za1, zb1, zc1, zd1, ze1, zf1, za2, zb2, zc2, zd2, ze2, zf2, za3, zb3, zc3, zd3, ze3, zf3, za4, zb4, zc4, zd4, ze4, zf4, za5, zb5, zc5, zd5, ze5, zf5, za6, zb6, zc6, zd6, ze6, zf6, za7, zb7, zc7, zd7, ze7, zf7, za8, zb8, zc8, zd8, ze8, zf8, za9, zb9, zc9, zd9, ze9, zf9, za10, zb10, zc10, zd10, ze10, zf10, za20, zb20, zc20, zd20, ze20, zf20, za24, zb24, zc24, zd24, ze24, zf24, za39, zb39, zc39, zd39, ze39, zf39, za40, zb40, zc40, zd40, ze40, zf40, za50, zb50, zc50, zd50, ze50, zf50, za51, zb51, zc51, zd51, ze51, zf51, za60, zb60, zc60, zd60, ze60, zf60, za90, zb90, zc90, zd90, ze90, zf90, za99, zb99, zc99, zd99, ze99, zf99, za100, zb100, zc100, zd100, ze100, zf100, za101, zb101, zc101, zd101, ze101, zf101, za120, zb120, zc120, zd120, ze120, zf120, za160, zb160, zc160, zd160, ze160, zf160, za200, zb200, zc200, zd200, ze200, zf200, za400, zb400, zc400, zd400, ze400, zf400, za999, zb999, zc999, zd999, ze999, zf999, za1000, zb1000, zc1000, zd1000, ze1000, zf1000, za1440, zb1440, zc1440, zd1440, ze1440, zf1440, zp1, zp2, zp3, zp8, zp40, zq8, zq10, zq40, nI_leI, nI_ltI, nI_eq, px_inbT, nI_clamp, nI_add, pk_m1, if_pos, if_neg, eX7_hasMark_0, eX7_hasMark_16, eX7_hasMark_17]
theorem t_mark (hI : ISv M) (v u : Int32) (f : Int32) (hf : f = 0 ∨ f = 1) : ∃ w M1 M2, px_ex px_tab (d + 3) 121 [Value.ref (13), Value.int (v), Value.int (u), Value.int (f)] (hp (M) (J) (R) (c) (e) nL xs (D)) = some (some (Value.int (w)), (hp (M1) (J) (R) (c) (e) nL xs (D))) ∧ px_ex px_tab (d + 3) 169 [Value.ref (67), Value.int (v), Value.int (u), Value.int (f)] (hp (M1) (J) (R) (c) (e) nL xs (D)) = some (some (Value.int (w)), (hp (M2) (J) (R) (c) (e) nL xs (D))) ∧ ISv M2 ∧ frm [14, 15, 16, 17, 18, 19, 20, 21, 22, 23, 24, 25, 26, 27, 68, 69, 70, 71, 72, 73, 74, 75, 76] [0, 6, 11, 12] M M2 := by
  by_cases hv : -5000 ≤ v ∧ v ≤ 5000
  · by_cases hu : -5000 ≤ u ∧ u ≤ 5000
    · obtain ⟨s, b, r, h1, h2, h3⟩ := hI
      obtain ⟨a1, a2, b1, b2, a3, a4, a5, a6, a9, a10, a7, a8⟩ := h1
      by_cases h8 : Sm s = 8
      · refine ⟨-4, M, M, ?_, ?_, ⟨s, b, r, ⟨a1, a2, b1, b2, a3, a4, a5, a6, a9, a10, a7, a8⟩, h2, h3⟩, frm.rf _ _ _⟩
        · rw [xX11_mark]
          simp (disch := omega) only [px_bd_s, px_psh_s, px_psh_n, px_vb_s, px_ib_s, px_wb_s, px_bo_s, px_bo_n, Bool.cond_decide, cond_true, cond_false, ite_not, Bool.and_true, if_true, if_false, not_true_eq_false, not_false_eq_true, i10, eq_self, decide_true, decide_false, Bool.or_true, Bool.true_or, Bool.or_false, Bool.false_or, eX11_mark_0, eX11_mark_0_6, xX7_addMark, eX7_addMark_0, eX7_addMark_28, eX7_addMark_31, eX7_addMark_43, eX7_addMark_43_26, Int32.not_lt.mpr hv.1, Int32.not_lt.mpr hv.2, Int32.not_lt.mpr hu.1, hu.2, a3, h8, show ¬ nI 8 < 8 from by decide]
        · rw [xX12_mark]
          simp (disch := omega) only [px_bd_s, px_psh_s, px_psh_n, px_vb_s, px_ib_s, px_wb_s, px_bo_s, px_bo_n, Bool.cond_decide, cond_true, cond_false, ite_not, Bool.and_true, if_true, if_false, not_true_eq_false, not_false_eq_true, i10, eq_self, decide_true, decide_false, Bool.or_true, Bool.true_or, Bool.or_false, Bool.false_or, eX12_mark_0, eX12_mark_0_4, eX12_mark_26, eX12_mark_0_9, eX12_mark_29, eX12_mark_41, c_in, px_in_1 hv, px_in_1 hu, a4, h8, show nI 8 = 8 from rfl]
      · obtain ⟨z, q1, q2⟩ := c_frg d (px_uR (px_uR (px_uR (px_uR M 15 (upd (M 15) (Sm s) v)) 16 (upd (M 16) (Sm s) u)) 17 (upd (M 17) (Sm s) f)) 14 (upd (M 14) 0 (nI (Sm s + 1)))) J R c e nL xs D a2 a5
        refine ⟨nI (Sm s), px_uR (px_uR (px_uR (px_uR (px_uR (px_uR M 15 (upd (M 15) (Sm s) v)) 16 (upd (M 16) (Sm s) u)) 17 (upd (M 17) (Sm s) f)) 14 (upd (M 14) 0 (nI (Sm s + 1)))) 14 (upd (upd (M 14) 0 (nI (Sm s + 1))) 9 0)) 24 z, px_uR (px_uR (px_uR (px_uR (px_uR (px_uR (px_uR (px_uR (px_uR (px_uR M 15 (upd (M 15) (Sm s) v)) 16 (upd (M 16) (Sm s) u)) 17 (upd (M 17) (Sm s) f)) 14 (upd (M 14) 0 (nI (Sm s + 1)))) 14 (upd (upd (M 14) 0 (nI (Sm s + 1))) 9 0)) 24 z) 68 (upd (M 68) (Sm s) v)) 69 (upd (M 69) (Sm s) u)) 72 (upd (M 72) (Sm s) f)) 67 (upd (upd (M 67) 0 (nI (Sm s + 1))) 11 0), ?_, ?_, ?_, ?_⟩
        · rw [xX11_mark]
          have e9 : (decide (f = 0) || decide (f = 1)) = true := by
            rcases hf with rfl | rfl <;> rfl
          simp (disch := omega) only [px_bd_s, px_psh_s, px_psh_n, px_vb_s, px_ib_s, px_wb_s, px_bo_s, px_bo_n, Bool.cond_decide, cond_true, cond_false, ite_not, Bool.and_true, if_true, if_false, not_true_eq_false, not_false_eq_true, i10, eq_self, decide_true, decide_false, Bool.or_true, Bool.true_or, Bool.or_false, Bool.false_or, eX11_mark_0, xX7_addMark, eX7_addMark_0, eX7_addMark_28, eX7_addMark_31, eX7_addMark_43, Int32.not_lt.mpr hv.1, Int32.not_lt.mpr hv.2, Int32.not_lt.mpr hu.1, hu.2, a3, zd8, px_inbT, nI_clamp, zp1, e9, if_pos]
          rw [q1]
          simp only [px_bd_s, px_psh_s, px_psh_n, px_vb_s, px_ib_s, px_wb_s, px_bo_s, px_bo_n, Bool.cond_decide, cond_true, cond_false, ite_not, Bool.and_true, if_true, if_false, not_true_eq_false, not_false_eq_true, i10, eq_self, decide_true, decide_false, Bool.or_true, Bool.true_or, Bool.or_false, Bool.false_or, eX7_addMark_43_26, eX11_mark_0_6]
          exact congrArg (fun w => some (some (Value.int w), _)) (nI_pred (Sm s))
        · rw [xX12_mark]
          have e1 : (px_uR (px_uR (px_uR (px_uR (px_uR (px_uR M 15 (upd (M 15) (Sm s) v)) 16 (upd (M 16) (Sm s) u)) 17 (upd (M 17) (Sm s) f)) 14 (upd (M 14) 0 (nI (Sm s + 1)))) 14 (upd (upd (M 14) 0 (nI (Sm s + 1))) 9 0)) 24 z) 67 = M 67 := rfl
          have e9 : (decide (f = 0) || decide (f = 1)) = true := by
            rcases hf with rfl | rfl <;> rfl
          simp (disch := omega) only [px_bd_s, px_psh_s, px_psh_n, px_vb_s, px_ib_s, px_wb_s, px_bo_s, px_bo_n, Bool.cond_decide, cond_true, cond_false, ite_not, Bool.and_true, if_true, if_false, not_true_eq_false, not_false_eq_true, i10, eq_self, decide_true, decide_false, Bool.or_true, Bool.true_or, Bool.or_false, Bool.false_or, eX12_mark_0, eX12_mark_0_4, eX12_mark_26, eX12_mark_0_9, eX12_mark_29, eX12_mark_41, c_in, px_in_1 hv, px_in_1 hu, e1, a4, ze8, px_inbT, nI_clamp, zp1, e9, if_pos, nI_pred]
          rfl
        · refine ⟨(Sm s + 1, St s, ups' (Sx s) (Sm s) v.toInt, ups' (Sy s) (Sm s) u.toInt, ups' (Sf s) (Sm s) (decide (f = 1)), Sa s, Sb s, Sl s), b, 0, ⟨by show Sm s + 1 ≤ 8; omega, a2, b1, b2, rfl, rfl, a5, a6, a9, a10, fun i hi => ?_, fun k hk => ?_⟩, ISk_0 rfl q2, Or.inl rfl⟩
          · show upd (M 15) (Sm s) v i = iI (ups' (Sx s) (Sm s) v.toInt i) ∧ upd (M 68) (Sm s) v i = iI (ups' (Sx s) (Sm s) v.toInt i) ∧ upd (M 16) (Sm s) u i = iI (ups' (Sy s) (Sm s) u.toInt i) ∧ upd (M 69) (Sm s) u i = iI (ups' (Sy s) (Sm s) u.toInt i) ∧ upd (M 17) (Sm s) f i = (if ups' (Sf s) (Sm s) (decide (f = 1)) i = true then 1 else 0) ∧ upd (M 72) (Sm s) f i = (if ups' (Sf s) (Sm s) (decide (f = 1)) i = true then 1 else 0) ∧ -5000 ≤ ups' (Sx s) (Sm s) v.toInt i ∧ ups' (Sx s) (Sm s) v.toInt i ≤ 5000 ∧ -5000 ≤ ups' (Sy s) (Sm s) u.toInt i ∧ ups' (Sy s) (Sm s) u.toInt i ≤ 5000
            have hi' : i < Sm s + 1 := hi
            by_cases hj : i = Sm s
            · subst hj
              rw [pk_us, pk_us, pk_us, pk_us, pk_us, pk_us, ups'_s, ups'_s, ups'_s, iI_self, iI_self]
              refine ⟨rfl, rfl, rfl, rfl, ?_, ?_, (rg_I hv).1, (rg_I hv).2, (rg_I hu).1, (rg_I hu).2⟩ <;> (rcases hf with rfl | rfl <;> rfl)
            · rw [pk_un hj, pk_un hj, pk_un hj, pk_un hj, pk_un hj, pk_un hj, ups'_n _ _ hj, ups'_n _ _ hj, ups'_n _ _ hj]
              exact a7 i (by omega)
          · obtain ⟨k1, k2, k3, k4, k5, k6, k7, k8, k9, k10, k11⟩ := a8 k hk
            exact ⟨k1, k2, k3, k4, k5, k6, Nat.lt_succ_of_lt k7, Nat.lt_succ_of_lt k8, k9, k10, k11⟩
        · have q := ((((((((((((frm.rf [14, 15, 16, 17, 18, 19, 20, 21, 22, 23, 24, 25, 26, 27, 68, 69, 70, 71, 72, 73, 74, 75, 76] [0, 6, 11, 12] M).u 15 (upd (M 15) (Sm s) v) (by decide) (by decide)).u 16 (upd (M 16) (Sm s) u) (by decide) (by decide)).u 17 (upd (M 17) (Sm s) f) (by decide) (by decide)).u 14 (upd (M 14) 0 (nI (Sm s + 1))) (by decide) (by decide)).u 14 (upd (upd (M 14) 0 (nI (Sm s + 1))) 9 0) (by decide) (by decide)).u 24 z (by decide) (by decide)).u 68 (upd (M 68) (Sm s) v) (by decide) (by decide)).u 69 (upd (M 69) (Sm s) u) (by decide) (by decide)).u 72 (upd (M 72) (Sm s) f) (by decide) (by decide)).k 0 (nI (Sm s + 1)) (by decide)).k 11 0 (by decide))
          rw [px_uR_2] at q
          exact q
    · refine ⟨-2, M, M, ?_, ?_, hI, frm.rf _ _ _⟩
      · rw [xX11_mark]
        simp only [px_bd_s, px_psh_s, px_psh_n, px_vb_s, px_ib_s, px_wb_s, px_bo_s, px_bo_n, Bool.cond_decide, cond_true, cond_false, ite_not, Bool.and_true, if_true, if_false, not_true_eq_false, not_false_eq_true, i10, eq_self, decide_true, decide_false, Bool.or_true, Bool.true_or, Bool.or_false, Bool.false_or, eX11_mark_0, xX7_addMark, eX7_addMark_0, Int32.not_lt.mpr hv.1, Int32.not_lt.mpr hv.2]
        by_cases h1 : u < -5000
        · simp only [px_bd_s, px_psh_s, px_psh_n, px_vb_s, px_ib_s, px_wb_s, px_bo_s, px_bo_n, Bool.cond_decide, cond_true, cond_false, ite_not, Bool.and_true, if_true, if_false, not_true_eq_false, not_false_eq_true, i10, eq_self, decide_true, decide_false, Bool.or_true, Bool.true_or, Bool.or_false, Bool.false_or, eX11_mark_0_6, eX7_addMark_28, eX7_addMark_31, eX7_addMark_43, eX7_addMark_43_26, h1]
        · have h2 : ¬ u ≤ 5000 := fun q => hu ⟨Int32.not_lt.mp h1, q⟩
          simp only [px_bd_s, px_psh_s, px_psh_n, px_vb_s, px_ib_s, px_wb_s, px_bo_s, px_bo_n, Bool.cond_decide, cond_true, cond_false, ite_not, Bool.and_true, if_true, if_false, not_true_eq_false, not_false_eq_true, i10, eq_self, decide_true, decide_false, Bool.or_true, Bool.true_or, Bool.or_false, Bool.false_or, eX11_mark_0_6, eX7_addMark_28, eX7_addMark_31, eX7_addMark_43, eX7_addMark_43_26, h1, h2]
      · rw [xX12_mark]
        simp only [px_bd_s, px_psh_s, px_psh_n, px_vb_s, px_ib_s, px_wb_s, px_bo_s, px_bo_n, Bool.cond_decide, cond_true, cond_false, ite_not, Bool.and_true, if_true, if_false, not_true_eq_false, not_false_eq_true, i10, eq_self, decide_true, decide_false, Bool.or_true, Bool.true_or, Bool.or_false, Bool.false_or, eX12_mark_0, eX12_mark_0_4, eX12_mark_26, eX12_mark_0_9, eX12_mark_29, eX12_mark_41, c_in, px_in_1 hv, px_in_00 hu]
  · refine ⟨-2, M, M, ?_, ?_, hI, frm.rf _ _ _⟩
    · rw [xX11_mark]
      simp only [px_bd_s, px_psh_s, px_psh_n, px_vb_s, px_ib_s, px_wb_s, px_bo_s, px_bo_n, Bool.cond_decide, cond_true, cond_false, ite_not, Bool.and_true, if_true, if_false, not_true_eq_false, not_false_eq_true, i10, eq_self, decide_true, decide_false, Bool.or_true, Bool.true_or, Bool.or_false, Bool.false_or, eX11_mark_0, xX7_addMark, eX7_addMark_0]
      by_cases h1 : v < -5000
      · simp only [px_bd_s, px_psh_s, px_psh_n, px_vb_s, px_ib_s, px_wb_s, px_bo_s, px_bo_n, Bool.cond_decide, cond_true, cond_false, ite_not, Bool.and_true, if_true, if_false, not_true_eq_false, not_false_eq_true, i10, eq_self, decide_true, decide_false, Bool.or_true, Bool.true_or, Bool.or_false, Bool.false_or, eX11_mark_0_6, eX7_addMark_28, eX7_addMark_31, eX7_addMark_43, eX7_addMark_43_26, h1]
      · have h2 : (5000 : Int32) < v := Int32.not_le.mp fun q => hv ⟨Int32.not_lt.mp h1, q⟩
        simp only [px_bd_s, px_psh_s, px_psh_n, px_vb_s, px_ib_s, px_wb_s, px_bo_s, px_bo_n, Bool.cond_decide, cond_true, cond_false, ite_not, Bool.and_true, if_true, if_false, not_true_eq_false, not_false_eq_true, i10, eq_self, decide_true, decide_false, Bool.or_true, Bool.true_or, Bool.or_false, Bool.false_or, eX11_mark_0_6, eX7_addMark_28, eX7_addMark_31, eX7_addMark_43, eX7_addMark_43_26, h1, h2]
    · rw [xX12_mark]
      simp only [px_bd_s, px_psh_s, px_psh_n, px_vb_s, px_ib_s, px_wb_s, px_bo_s, px_bo_n, Bool.cond_decide, cond_true, cond_false, ite_not, Bool.and_true, if_true, if_false, not_true_eq_false, not_false_eq_true, i10, eq_self, decide_true, decide_false, Bool.or_true, Bool.true_or, Bool.or_false, Bool.false_or, eX12_mark_0, eX12_mark_0_4, eX12_mark_26, eX12_mark_0_9, eX12_mark_29, eX12_mark_41, c_in, px_in_00 hv]
end S56
