/-! PART 34: CELL, NONE, CANCEL -/
theorem ISh_put {M M2 : Nat → Nat → Int32} (hI : ISh M) {s i : Nat} (hs : s < 4) (hi : i < 40) (x a b : Int32) (e60 : M2 60 = M 60) (e102 : M2 102 = M 102) (e61 : M2 61 = M 61) (e103 : M2 103 = M 103) (e104 : M2 104 = upd (M 104) (40 * s + i) a) (e105 : M2 105 = upd (M 105) (40 * s + i) b) (er : ∀ t, t < 4 → t ≠ s → M2 (63 + t) = M (63 + t)) (es : M2 (63 + s) = upd (M (63 + s)) i x) (hx : M 102 s = 2 → (b = 0 ∧ x = a ∧ x ≠ 40001) ∨ (b = 1 ∧ x = 40001)) : ISh M2 := by
  intro t ht
  rw [e60, e102, e61, e103, e104, e105]
  obtain ⟨j60, j61, jrow⟩ := hI t ht
  refine ⟨j60, j61, fun q k hk hq => ?_⟩
  by_cases hst : t = s
  · subst hst
    rw [es]
    by_cases hki : k = i
    · subst hki
      rw [pk_us, pk_us, pk_us]
      exact hx q
    · rw [pk_un hki, pk_un (by omega), pk_un (by omega)]
      exact jrow q k hk hq
  · rw [er t ht hst, pk_un (by omega), pk_un (by omega)]
    exact jrow q k hk hq
section S34
variable (d : Nat) (M : Nat → Nat → Int32) (J : Nat → Nat → Int64) (R : Nat → Nat → Option Nat) (c e nL : Nat) (xs : Nat → Int32) (D : px_H)
theorem c_cut (a v : Int32) : px_ex px_tab (d + 1) 73 [Value.int (a), Value.int (v)] (hp (M) (J) (R) (c) (e) nL xs (D)) = some (some (Value.int (if a = 0 then (Int32.toInt8 v).toInt32 else if a = 1 then (Int32.toInt16 v).toInt32 else v)), (hp (M) (J) (R) (c) (e) nL xs (D))) := by
  rw [xX6_cutTo]
  simp only [px_bd_s, px_psh_s, px_psh_n, px_vb_s, px_ib_s, px_wb_s, px_bo_s, px_bo_n, Bool.cond_decide, cond_true, cond_false, ite_not, Bool.and_true, if_true, if_false, not_true_eq_false, not_false_eq_true, i10, eq_self, decide_true, decide_false, Bool.or_true, Bool.true_or, Bool.or_false, Bool.false_or, eX6_cutTo_0, eX6_cutTo_34, eX6_cutTo_31, eX6_cutTo_28]
  split
  · rfl
  · split <;> rfl
theorem t_cell (hI : ISh M) (v1 v2 v3 : Int32) : ∃ w M1 M2, px_ex px_tab (d + 4) 161 [Value.ref (13), Value.int (v1), Value.int (v2), Value.int (v3)] (hp (M) (J) (R) (c) (e) nL xs (D)) = some (some (Value.int (w)), (hp (M1) (J) (R) (c) (e) nL xs (D))) ∧ px_ex px_tab (d + 4) 253 [Value.ref (67), Value.int (v1), Value.int (v2), Value.int (v3)] (hp (M1) (J) (R) (c) (e) nL xs (D)) = some (some (Value.int (w)), (hp (M2) (J) (R) (c) (e) nL xs (D))) ∧ ISh M2 ∧ frm [60, 61, 63, 64, 65, 66, 102, 103, 104, 105] [] M M2 := by
  have bad : ∀ (_ : v1 < 0 ∨ 4 ≤ v1), ∃ w M1 M2, px_ex px_tab (d + 4) 161 [Value.ref (13), Value.int (v1), Value.int (v2), Value.int (v3)] (hp (M) (J) (R) (c) (e) nL xs (D)) = some (some (Value.int (w)), (hp (M1) (J) (R) (c) (e) nL xs (D))) ∧ px_ex px_tab (d + 4) 253 [Value.ref (67), Value.int (v1), Value.int (v2), Value.int (v3)] (hp (M1) (J) (R) (c) (e) nL xs (D)) = some (some (Value.int (w)), (hp (M2) (J) (R) (c) (e) nL xs (D))) ∧ ISh M2 ∧ frm [60, 61, 63, 64, 65, 66, 102, 103, 104, 105] [] M M2 := by
    intro h
    refine ⟨-2, M, M, ?_, ?_, hI, frm.rf _ _ _⟩
    · rw [xX11_cell]
      simp only [px_bd_s, px_psh_s, px_psh_n, px_vb_s, px_ib_s, px_wb_s, px_bo_s, px_bo_n, Bool.cond_decide, cond_true, cond_false, ite_not, Bool.and_true, if_true, if_false, not_true_eq_false, not_false_eq_true, i10, eq_self, decide_true, decide_false, Bool.or_true, Bool.true_or, Bool.or_false, Bool.false_or, eX11_cell_0, eX11_cell_0_6, xX6_put, eX6_put_0, eX6_put_0_3, eX6_put_20, c_has_n _ _ _ _ _ _ _ _ _ h]
    · rw [xX12_cell]
      simp only [px_bd_s, px_psh_s, px_psh_n, px_vb_s, px_ib_s, px_wb_s, px_bo_s, px_bo_n, Bool.cond_decide, cond_true, cond_false, ite_not, Bool.and_true, if_true, if_false, not_true_eq_false, not_false_eq_true, i10, eq_self, decide_true, decide_false, Bool.or_true, Bool.true_or, Bool.or_false, Bool.false_or, eX12_cell_0, eX12_cell_0_2, eX12_cell_20, m_isSheet_n _ _ _ _ _ _ _ _ _ h]
  rcases pk_ix v1 (n := 4) (by decide) with h1 | h1 | ⟨s, hs, rfl⟩
  · exact bad (Or.inl h1)
  · exact bad (Or.inr h1)
  clear bad
  obtain ⟨j60, ⟨n, hn, j61, j103⟩, jrow⟩ := hI s hs
  by_cases h3 : -40000 ≤ v3 ∧ v3 ≤ 40000
  · by_cases hm : M 102 s = -1
    · refine ⟨-11, M, M, ?_, ?_, hI, frm.rf _ _ _⟩
      · rw [xX11_cell]
        simp (disch := omega) only [px_bd_s, px_psh_s, px_psh_n, px_vb_s, px_ib_s, px_wb_s, px_bo_s, px_bo_n, Bool.cond_decide, cond_true, cond_false, ite_not, Bool.and_true, if_true, if_false, not_true_eq_false, not_false_eq_true, i10, eq_self, decide_true, decide_false, Bool.or_true, Bool.true_or, Bool.or_false, Bool.false_or, eX11_cell_0, eX11_cell_0_6, xX6_put, eX6_put_0, eX6_put_0_3, eX6_put_23, c_has_y _ _ _ _ _ _ _ _ _ hs, Int32.not_lt.mpr h3.1, h3.2, px_inbT, nI_clamp, j60, hm]
      · rw [xX12_cell]
        simp (disch := omega) only [px_bd_s, px_psh_s, px_psh_n, px_vb_s, px_ib_s, px_wb_s, px_bo_s, px_bo_n, Bool.cond_decide, cond_true, cond_false, ite_not, Bool.and_true, if_true, if_false, not_true_eq_false, not_false_eq_true, i10, eq_self, decide_true, decide_false, Bool.or_true, Bool.true_or, Bool.or_false, Bool.false_or, eX12_cell_0, eX12_cell_0_2, eX12_cell_0_7, eX12_cell_23, m_isSheet_y _ _ _ _ _ _ _ _ _ hs, c_in, px_in_1 h3, px_inbT, nI_clamp, hm]
    · rcases pk_ix v2 (n := n) (by omega) with h2 | h2 | ⟨i, hi, rfl⟩
      · refine ⟨-12, M, M, ?_, ?_, hI, frm.rf _ _ _⟩
        · rw [xX11_cell]
          simp (disch := omega) only [px_bd_s, px_psh_s, px_psh_n, px_vb_s, px_ib_s, px_wb_s, px_bo_s, px_bo_n, Bool.cond_decide, cond_true, cond_false, ite_not, Bool.and_true, if_true, if_false, not_true_eq_false, not_false_eq_true, i10, eq_self, decide_true, decide_false, Bool.or_true, Bool.true_or, Bool.or_false, Bool.false_or, eX11_cell_0, eX11_cell_0_6, xX6_put, eX6_put_0, eX6_put_0_3, eX6_put_23, eX6_put_36, eX6_put_36_4, c_has_y _ _ _ _ _ _ _ _ _ hs, Int32.not_lt.mpr h3.1, h3.2, px_inbT, nI_clamp, j60, hm, c_holds _ _ _ _ _ _ _ _ _ hs, h2, true_or]
        · rw [xX12_cell]
          simp (disch := omega) only [px_bd_s, px_psh_s, px_psh_n, px_vb_s, px_ib_s, px_wb_s, px_bo_s, px_bo_n, Bool.cond_decide, cond_true, cond_false, ite_not, Bool.and_true, if_true, if_false, not_true_eq_false, not_false_eq_true, i10, eq_self, decide_true, decide_false, Bool.or_true, Bool.true_or, Bool.or_false, Bool.false_or, eX12_cell_0, eX12_cell_0_2, eX12_cell_0_7, eX12_cell_23, eX12_cell_36, eX12_cell_36_9, m_isSheet_y _ _ _ _ _ _ _ _ _ hs, c_in, px_in_1 h3, px_inbT, nI_clamp, hm, j103, in_n (n := n) (by omega) (Or.inl h2)]
      · refine ⟨-12, M, M, ?_, ?_, hI, frm.rf _ _ _⟩
        · rw [xX11_cell]
          simp (disch := omega) only [px_bd_s, px_psh_s, px_psh_n, px_vb_s, px_ib_s, px_wb_s, px_bo_s, px_bo_n, Bool.cond_decide, cond_true, cond_false, ite_not, Bool.and_true, if_true, if_false, not_true_eq_false, not_false_eq_true, i10, eq_self, decide_true, decide_false, Bool.or_true, Bool.true_or, Bool.or_false, Bool.false_or, eX11_cell_0, eX11_cell_0_6, xX6_put, eX6_put_0, eX6_put_0_3, eX6_put_23, eX6_put_36, eX6_put_36_4, c_has_y _ _ _ _ _ _ _ _ _ hs, Int32.not_lt.mpr h3.1, h3.2, px_inbT, nI_clamp, j60, hm, c_holds _ _ _ _ _ _ _ _ _ hs, j61, h2, or_true]
        · rw [xX12_cell]
          simp (disch := omega) only [px_bd_s, px_psh_s, px_psh_n, px_vb_s, px_ib_s, px_wb_s, px_bo_s, px_bo_n, Bool.cond_decide, cond_true, cond_false, ite_not, Bool.and_true, if_true, if_false, not_true_eq_false, not_false_eq_true, i10, eq_self, decide_true, decide_false, Bool.or_true, Bool.true_or, Bool.or_false, Bool.false_or, eX12_cell_0, eX12_cell_0_2, eX12_cell_0_7, eX12_cell_23, eX12_cell_36, eX12_cell_36_9, m_isSheet_y _ _ _ _ _ _ _ _ _ hs, c_in, px_in_1 h3, px_inbT, nI_clamp, hm, j103, in_n (n := n) (by omega) (Or.inr h2)]
      · have hno : ¬ (nI i < 0 ∨ nI n ≤ nI i) := by
          rintro (q | q)
          · exact nI_pos (by omega) q
          · exact nI_ge hi (by omega) q
        refine ⟨1, px_uR M (63 + s) (upd (M (63 + s)) i (if M 102 s = 0 then (Int32.toInt8 v3).toInt32 else if M 102 s = 1 then (Int32.toInt16 v3).toInt32 else v3)), px_uR (px_uR (px_uR M (63 + s) (upd (M (63 + s)) i (if M 102 s = 0 then (Int32.toInt8 v3).toInt32 else if M 102 s = 1 then (Int32.toInt16 v3).toInt32 else v3))) 104 (upd (M 104) (40 * s + i) v3)) 105 (upd (M 105) (40 * s + i) 0), ?_, ?_, ?_, ?_⟩
        · rw [xX11_cell]
          simp (disch := omega) only [px_bd_s, px_psh_s, px_psh_n, px_vb_s, px_ib_s, px_wb_s, px_bo_s, px_bo_n, Bool.cond_decide, cond_true, cond_false, ite_not, Bool.and_true, if_true, if_false, not_true_eq_false, not_false_eq_true, i10, eq_self, decide_true, decide_false, Bool.or_true, Bool.true_or, Bool.or_false, Bool.false_or, eX11_cell_0, eX11_cell_0_6, xX6_put, eX6_put_0, eX6_put_0_3, eX6_put_23, eX6_put_36, eX6_put_36_4, eX6_put_48, eX6_put_48_11_b, eX6_put_48_12, c_has_y _ _ _ _ _ _ _ _ _ hs, Int32.not_lt.mpr h3.1, h3.2, px_inbT, nI_clamp, j60, hm, c_holds _ _ _ _ _ _ _ _ _ hs, j61, hno, sh_it hs, c_cut, sh_pa]
        · have hM : ∀ a, a = 102 ∨ a = 103 ∨ a = 104 ∨ a = 105 → (px_uR M (63 + s) (upd (M (63 + s)) i (if M 102 s = 0 then (Int32.toInt8 v3).toInt32 else if M 102 s = 1 then (Int32.toInt16 v3).toInt32 else v3))) a = M a := by
            intro a ha
            rw [px_uR_n _ _ _ _ (by omega)]
          rw [xX12_cell]
          simp (disch := omega) only [px_bd_s, px_psh_s, px_psh_n, px_vb_s, px_ib_s, px_wb_s, px_bo_s, px_bo_n, Bool.cond_decide, cond_true, cond_false, ite_not, Bool.and_true, if_true, if_false, not_true_eq_false, not_false_eq_true, i10, eq_self, decide_true, decide_false, Bool.or_true, Bool.true_or, Bool.or_false, Bool.false_or, eX12_cell_0, eX12_cell_0_2, eX12_cell_0_7, eX12_cell_23, eX12_cell_36, eX12_cell_36_9, eX12_cell_55, m_isSheet_y _ _ _ _ _ _ _ _ _ hs, c_in, px_in_1 h3, px_inbT, nI_clamp, hm, j103, in_y hi, zq40, nI_add, hM]
        · refine ISh_put hI hs (show i < 40 by omega) (if M 102 s = 0 then (Int32.toInt8 v3).toInt32 else if M 102 s = 1 then (Int32.toInt16 v3).toInt32 else v3) v3 0 ?_ ?_ ?_ ?_ ?_ ?_ (fun t ht hts => ?_) ?_ (fun q => ?_)
          all_goals first | (simp (disch := omega) only [px_uR_n, px_uR_s]; done) | skip
          refine Or.inl ⟨rfl, ?_, ?_⟩
          · rw [q]; rfl
          · rw [q]
            show v3 ≠ 40001
            intro q2
            rw [q2] at h3
            exact absurd h3.2 (by decide)
        · exact (((frm.rf _ _ _).u (63 + s) _ (by simp; omega) (by omega)).u 104 _ (by decide) (by decide)).u 105 _ (by decide) (by decide)
  · refine ⟨-2, M, M, ?_, ?_, hI, frm.rf _ _ _⟩
    · rw [xX11_cell]
      simp only [px_bd_s, px_psh_s, px_psh_n, px_vb_s, px_ib_s, px_wb_s, px_bo_s, px_bo_n, Bool.cond_decide, cond_true, cond_false, ite_not, Bool.and_true, if_true, if_false, not_true_eq_false, not_false_eq_true, i10, eq_self, decide_true, decide_false, Bool.or_true, Bool.true_or, Bool.or_false, Bool.false_or, eX11_cell_0, eX11_cell_0_6, xX6_put, eX6_put_0, eX6_put_0_3, eX6_put_20, c_has_y _ _ _ _ _ _ _ _ _ hs]
      by_cases h5 : v3 < -40000
      · simp only [if_pos h5, px_bd_s, px_psh_s, px_psh_n, px_vb_s, px_ib_s, px_wb_s, px_bo_s, px_bo_n, Bool.cond_decide, cond_true, cond_false, ite_not, Bool.and_true, if_true, if_false, not_true_eq_false, not_false_eq_true, i10, eq_self, decide_true, decide_false, Bool.or_true, Bool.true_or, Bool.or_false, Bool.false_or, eX11_cell_0, eX11_cell_0_6]
      · have h6 : ¬ v3 ≤ 40000 := fun q => h3 ⟨Int32.not_lt.mp h5, q⟩
        simp only [if_neg h5, if_neg h6, px_bd_s, px_psh_s, px_psh_n, px_vb_s, px_ib_s, px_wb_s, px_bo_s, px_bo_n, Bool.cond_decide, cond_true, cond_false, ite_not, Bool.and_true, if_true, if_false, not_true_eq_false, not_false_eq_true, i10, eq_self, decide_true, decide_false, Bool.or_true, Bool.true_or, Bool.or_false, Bool.false_or, eX11_cell_0, eX11_cell_0_6]
    · rw [xX12_cell]
      simp only [px_bd_s, px_psh_s, px_psh_n, px_vb_s, px_ib_s, px_wb_s, px_bo_s, px_bo_n, Bool.cond_decide, cond_true, cond_false, ite_not, Bool.and_true, if_true, if_false, not_true_eq_false, not_false_eq_true, i10, eq_self, decide_true, decide_false, Bool.or_true, Bool.true_or, Bool.or_false, Bool.false_or, eX12_cell_0, eX12_cell_0_2, eX12_cell_20, eX12_cell_0_7, m_isSheet_y _ _ _ _ _ _ _ _ _ hs, c_in, px_in_00 h3]
theorem t_none (hI : ISh M) (v1 v2 : Int32) : ∃ w M1 M2, px_ex px_tab (d + 4) 162 [Value.ref (13), Value.int (v1), Value.int (v2)] (hp (M) (J) (R) (c) (e) nL xs (D)) = some (some (Value.int (w)), (hp (M1) (J) (R) (c) (e) nL xs (D))) ∧ px_ex px_tab (d + 4) 254 [Value.ref (67), Value.int (v1), Value.int (v2)] (hp (M1) (J) (R) (c) (e) nL xs (D)) = some (some (Value.int (w)), (hp (M2) (J) (R) (c) (e) nL xs (D))) ∧ ISh M2 ∧ frm [60, 61, 63, 64, 65, 66, 102, 103, 104, 105] [] M M2 := by
  have bad : ∀ (_ : v1 < 0 ∨ 4 ≤ v1), ∃ w M1 M2, px_ex px_tab (d + 4) 162 [Value.ref (13), Value.int (v1), Value.int (v2)] (hp (M) (J) (R) (c) (e) nL xs (D)) = some (some (Value.int (w)), (hp (M1) (J) (R) (c) (e) nL xs (D))) ∧ px_ex px_tab (d + 4) 254 [Value.ref (67), Value.int (v1), Value.int (v2)] (hp (M1) (J) (R) (c) (e) nL xs (D)) = some (some (Value.int (w)), (hp (M2) (J) (R) (c) (e) nL xs (D))) ∧ ISh M2 ∧ frm [60, 61, 63, 64, 65, 66, 102, 103, 104, 105] [] M M2 := by
    intro h
    refine ⟨-2, M, M, ?_, ?_, hI, frm.rf _ _ _⟩
    · rw [xX11_none]
      simp only [px_bd_s, px_psh_s, px_psh_n, px_vb_s, px_ib_s, px_wb_s, px_bo_s, px_bo_n, Bool.cond_decide, cond_true, cond_false, ite_not, Bool.and_true, if_true, if_false, not_true_eq_false, not_false_eq_true, i10, eq_self, decide_true, decide_false, Bool.or_true, Bool.true_or, Bool.or_false, Bool.false_or, eX11_none_0, eX11_none_0_5, xX6_wipe, eX6_wipe_0, eX6_wipe_0_3, c_has_n _ _ _ _ _ _ _ _ _ h]
    · rw [xX12_none]
      simp only [px_bd_s, px_psh_s, px_psh_n, px_vb_s, px_ib_s, px_wb_s, px_bo_s, px_bo_n, Bool.cond_decide, cond_true, cond_false, ite_not, Bool.and_true, if_true, if_false, not_true_eq_false, not_false_eq_true, i10, eq_self, decide_true, decide_false, Bool.or_true, Bool.true_or, Bool.or_false, Bool.false_or, eX12_none_0, eX12_none_0_2, m_isSheet_n _ _ _ _ _ _ _ _ _ h]
  rcases pk_ix v1 (n := 4) (by decide) with h1 | h1 | ⟨s, hs, rfl⟩
  · exact bad (Or.inl h1)
  · exact bad (Or.inr h1)
  clear bad
  obtain ⟨j60, ⟨n, hn, j61, j103⟩, jrow⟩ := hI s hs
  by_cases hm : M 102 s = -1
  · refine ⟨-11, M, M, ?_, ?_, hI, frm.rf _ _ _⟩
    · rw [xX11_none]
      simp (disch := omega) only [px_bd_s, px_psh_s, px_psh_n, px_vb_s, px_ib_s, px_wb_s, px_bo_s, px_bo_n, Bool.cond_decide, cond_true, cond_false, ite_not, Bool.and_true, if_true, if_false, not_true_eq_false, not_false_eq_true, i10, eq_self, decide_true, decide_false, Bool.or_true, Bool.true_or, Bool.or_false, Bool.false_or, eX11_none_0, eX11_none_0_5, xX6_wipe, eX6_wipe_0, eX6_wipe_0_3, eX6_wipe_11, eX6_wipe_11_3, c_has_y _ _ _ _ _ _ _ _ _ hs, c_floats _ _ _ _ _ _ _ _ _ hs, j60, hm, show ¬ (-11 : Int32) = 0 from by decide]
    · rw [xX12_none]
      simp (disch := omega) only [px_bd_s, px_psh_s, px_psh_n, px_vb_s, px_ib_s, px_wb_s, px_bo_s, px_bo_n, Bool.cond_decide, cond_true, cond_false, ite_not, Bool.and_true, if_true, if_false, not_true_eq_false, not_false_eq_true, i10, eq_self, decide_true, decide_false, Bool.or_true, Bool.true_or, Bool.or_false, Bool.false_or, eX12_none_0, eX12_none_0_2, eX12_none_10, eX12_none_33, m_isSheet_y _ _ _ _ _ _ _ _ _ hs, px_inbT, nI_clamp, hm]
  · by_cases h2s : M 102 s = 2
    · rcases pk_ix v2 (n := n) (by omega) with h2 | h2 | ⟨i, hi, rfl⟩
      · refine ⟨-12, M, M, ?_, ?_, hI, frm.rf _ _ _⟩
        · rw [xX11_none]
          simp (disch := omega) only [px_bd_s, px_psh_s, px_psh_n, px_vb_s, px_ib_s, px_wb_s, px_bo_s, px_bo_n, Bool.cond_decide, cond_true, cond_false, ite_not, Bool.and_true, if_true, if_false, not_true_eq_false, not_false_eq_true, i10, eq_self, decide_true, decide_false, Bool.or_true, Bool.true_or, Bool.or_false, Bool.false_or, eX11_none_0, eX11_none_0_5, xX6_wipe, eX6_wipe_0, eX6_wipe_0_3, eX6_wipe_11, eX6_wipe_11_3, eX6_wipe_23, eX6_wipe_23_4, c_has_y _ _ _ _ _ _ _ _ _ hs, c_floats _ _ _ _ _ _ _ _ _ hs, j60, hm, h2s, show ¬ (2 : Int32) = -1 from by decide, c_holds _ _ _ _ _ _ _ _ _ hs, h2, true_or]
        · rw [xX12_none]
          simp (disch := omega) only [px_bd_s, px_psh_s, px_psh_n, px_vb_s, px_ib_s, px_wb_s, px_bo_s, px_bo_n, Bool.cond_decide, cond_true, cond_false, ite_not, Bool.and_true, if_true, if_false, not_true_eq_false, not_false_eq_true, i10, eq_self, decide_true, decide_false, Bool.or_true, Bool.true_or, Bool.or_false, Bool.false_or, eX12_none_0, eX12_none_0_2, eX12_none_10, eX12_none_33, eX12_none_46, eX12_none_46_9, m_isSheet_y _ _ _ _ _ _ _ _ _ hs, px_inbT, nI_clamp, h2s, show ¬ (2 : Int32) = -1 from by decide, c_in, j103, in_n (n := n) (by omega) (Or.inl h2)]
      · refine ⟨-12, M, M, ?_, ?_, hI, frm.rf _ _ _⟩
        · rw [xX11_none]
          simp (disch := omega) only [px_bd_s, px_psh_s, px_psh_n, px_vb_s, px_ib_s, px_wb_s, px_bo_s, px_bo_n, Bool.cond_decide, cond_true, cond_false, ite_not, Bool.and_true, if_true, if_false, not_true_eq_false, not_false_eq_true, i10, eq_self, decide_true, decide_false, Bool.or_true, Bool.true_or, Bool.or_false, Bool.false_or, eX11_none_0, eX11_none_0_5, xX6_wipe, eX6_wipe_0, eX6_wipe_0_3, eX6_wipe_11, eX6_wipe_11_3, eX6_wipe_23, eX6_wipe_23_4, c_has_y _ _ _ _ _ _ _ _ _ hs, c_floats _ _ _ _ _ _ _ _ _ hs, j60, hm, h2s, show ¬ (2 : Int32) = -1 from by decide, c_holds _ _ _ _ _ _ _ _ _ hs, j61, h2, or_true]
        · rw [xX12_none]
          simp (disch := omega) only [px_bd_s, px_psh_s, px_psh_n, px_vb_s, px_ib_s, px_wb_s, px_bo_s, px_bo_n, Bool.cond_decide, cond_true, cond_false, ite_not, Bool.and_true, if_true, if_false, not_true_eq_false, not_false_eq_true, i10, eq_self, decide_true, decide_false, Bool.or_true, Bool.true_or, Bool.or_false, Bool.false_or, eX12_none_0, eX12_none_0_2, eX12_none_10, eX12_none_33, eX12_none_46, eX12_none_46_9, m_isSheet_y _ _ _ _ _ _ _ _ _ hs, px_inbT, nI_clamp, h2s, show ¬ (2 : Int32) = -1 from by decide, c_in, j103, in_n (n := n) (by omega) (Or.inr h2)]
      · have hno : ¬ (nI i < 0 ∨ nI n ≤ nI i) := by
          rintro (q | q)
          · exact nI_pos (by omega) q
          · exact nI_ge hi (by omega) q
        refine ⟨1, px_uR M (63 + s) (upd (M (63 + s)) i 40001), px_uR (px_uR M (63 + s) (upd (M (63 + s)) i 40001)) 105 (upd (M 105) (40 * s + i) 1), ?_, ?_, ?_, ?_⟩
        · rw [xX11_none]
          simp (disch := omega) only [px_bd_s, px_psh_s, px_psh_n, px_vb_s, px_ib_s, px_wb_s, px_bo_s, px_bo_n, Bool.cond_decide, cond_true, cond_false, ite_not, Bool.and_true, if_true, if_false, not_true_eq_false, not_false_eq_true, i10, eq_self, decide_true, decide_false, Bool.or_true, Bool.true_or, Bool.or_false, Bool.false_or, eX11_none_0, eX11_none_0_5, xX6_wipe, eX6_wipe_0, eX6_wipe_0_3, eX6_wipe_11, eX6_wipe_11_3, eX6_wipe_23, eX6_wipe_23_4, eX6_wipe_35, eX6_wipe_35_6, eX6_wipe_35_7, c_has_y _ _ _ _ _ _ _ _ _ hs, c_floats _ _ _ _ _ _ _ _ _ hs, j60, hm, h2s, show ¬ (2 : Int32) = -1 from by decide, c_holds _ _ _ _ _ _ _ _ _ hs, j61, hno, px_inbT, nI_clamp, sh_it hs, sh_pa]
        · have hM : ∀ a, a = 102 ∨ a = 103 ∨ a = 105 → (px_uR M (63 + s) (upd (M (63 + s)) i 40001)) a = M a := by
            intro a ha
            rw [px_uR_n _ _ _ _ (by omega)]
          rw [xX12_none]
          simp (disch := omega) only [px_bd_s, px_psh_s, px_psh_n, px_vb_s, px_ib_s, px_wb_s, px_bo_s, px_bo_n, Bool.cond_decide, cond_true, cond_false, ite_not, Bool.and_true, if_true, if_false, not_true_eq_false, not_false_eq_true, i10, eq_self, decide_true, decide_false, Bool.or_true, Bool.true_or, Bool.or_false, Bool.false_or, eX12_none_0, eX12_none_0_2, eX12_none_10, eX12_none_33, eX12_none_46, eX12_none_46_9, eX12_none_65, m_isSheet_y _ _ _ _ _ _ _ _ _ hs, px_inbT, nI_clamp, h2s, show ¬ (2 : Int32) = -1 from by decide, c_in, j103, in_y hi, zq40, nI_add, hM]
        · refine ISh_put hI hs (show i < 40 by omega) 40001 (M 104 (40 * s + i)) 1 ?_ ?_ ?_ ?_ ?_ ?_ (fun t ht hts => ?_) ?_ (fun q => Or.inr ⟨rfl, rfl⟩)
          all_goals simp (disch := omega) only [px_uR_n, px_uR_s, upd_id]
        · exact ((frm.rf _ _ _).u (63 + s) _ (by simp; omega) (by omega)).u 105 _ (by decide) (by decide)
    · refine ⟨-13, M, M, ?_, ?_, hI, frm.rf _ _ _⟩
      · rw [xX11_none]
        simp (disch := omega) only [px_bd_s, px_psh_s, px_psh_n, px_vb_s, px_ib_s, px_wb_s, px_bo_s, px_bo_n, Bool.cond_decide, cond_true, cond_false, ite_not, Bool.and_true, if_true, if_false, not_true_eq_false, not_false_eq_true, i10, eq_self, decide_true, decide_false, Bool.or_true, Bool.true_or, Bool.or_false, Bool.false_or, eX11_none_0, eX11_none_0_5, xX6_wipe, eX6_wipe_0, eX6_wipe_0_3, eX6_wipe_11, eX6_wipe_11_3, c_has_y _ _ _ _ _ _ _ _ _ hs, c_floats _ _ _ _ _ _ _ _ _ hs, j60, hm, h2s, show ¬ (-13 : Int32) = 0 from by decide]
      · rw [xX12_none]
        simp (disch := omega) only [px_bd_s, px_psh_s, px_psh_n, px_vb_s, px_ib_s, px_wb_s, px_bo_s, px_bo_n, Bool.cond_decide, cond_true, cond_false, ite_not, Bool.and_true, if_true, if_false, not_true_eq_false, not_false_eq_true, i10, eq_self, decide_true, decide_false, Bool.or_true, Bool.true_or, Bool.or_false, Bool.false_or, eX12_none_0, eX12_none_0_2, eX12_none_10, eX12_none_33, m_isSheet_y _ _ _ _ _ _ _ _ _ hs, px_inbT, nI_clamp, hm, h2s]
end S34
