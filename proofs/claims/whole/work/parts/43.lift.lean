/-! PART 43: WHY, LIFT, WORTH -/
section S43
variable (d : Nat) (M : Nat → Nat → Int32) (J : Nat → Nat → Int64) (R : Nat → Nat → Option Nat) (nL : Nat) (xs : Nat → Int32) (D : px_H)
theorem core_38 {n tn nb : Nat} {P pt : Nat → Nat} {H : Nat → Nat → Int32} (hF : IFn n P H (M 28 0) (M 67 13) (R 29) D (M 77) (M 78) (M 79) (M 80) (M 81) (M 82) (M 83) (M 84)) (ht : tn ≤ 6) (h28 : M 28 1 = nI tn) (h67 : M 67 22 = nI tn) (hrow : ∀ j, j < tn → M 30 j = M 85 j ∧ M 31 j = M 86 j ∧ ∃ a, a ≤ 5 ∧ M 85 j = nI a) (hI : IRc nb pt (M 38 0) (M 67 38) (M 39) (M 40) (M 41) (M 96) (M 97) (M 98)) (v t y : Int32) : ∃ w st, px_ex px_tab (d + 5) 136 [Value.ref (13), Value.int (v), Value.int (t), Value.int (y)] (hp (M) (J) (R) (38) (43) nL xs (D)) = some (some (Value.int (w)), (hp (px_uR M 42 st) (J) (R) (38) (43) nL xs (D))) ∧ (∀ (d2 : Nat) (D' : px_H), ∃ st', px_ex px_tab (d2 + 5) 192 [Value.ref (67), Value.int (v), Value.int (t), Value.int (y)] (hp (px_uR M 42 st) (J) (R) (38) (43) nL xs (D')) = some (some (Value.int (w)), (hp (px_uR (px_uR M 42 st) 107 st') (J) (R) (38) (43) nL xs (D')))) ∧ (w = -2 ∨ ∃ i j ww, i < n ∧ v = nI i ∧ j < tn ∧ t = nI j ∧ w = nI ww ∧ ww < 2 ^ 31 ∧ (ww = 0 → M 83 i = -1)) := by
  have hn := hF.1
  have bad : px_ex px_tab (d + 5) 136 [Value.ref (13), Value.int (v), Value.int (t), Value.int (y)] (hp (M) (J) (R) (38) (43) nL xs (D)) = some (some (Value.int (-2)), (hp (M) (J) (R) (38) (43) nL xs (D))) → (∀ (d2 : Nat) (D' : px_H), px_ex px_tab (d2 + 5) 192 [Value.ref (67), Value.int (v), Value.int (t), Value.int (y)] (hp (M) (J) (R) (38) (43) nL xs (D')) = some (some (Value.int (-2)), (hp (M) (J) (R) (38) (43) nL xs (D')))) → ∃ w st, px_ex px_tab (d + 5) 136 [Value.ref (13), Value.int (v), Value.int (t), Value.int (y)] (hp (M) (J) (R) (38) (43) nL xs (D)) = some (some (Value.int (w)), (hp (px_uR M 42 st) (J) (R) (38) (43) nL xs (D))) ∧ (∀ (d2 : Nat) (D' : px_H), ∃ st', px_ex px_tab (d2 + 5) 192 [Value.ref (67), Value.int (v), Value.int (t), Value.int (y)] (hp (px_uR M 42 st) (J) (R) (38) (43) nL xs (D')) = some (some (Value.int (w)), (hp (px_uR (px_uR M 42 st) 107 st') (J) (R) (38) (43) nL xs (D')))) ∧ (w = -2 ∨ ∃ i j ww, i < n ∧ v = nI i ∧ j < tn ∧ t = nI j ∧ w = nI ww ∧ ww < 2 ^ 31 ∧ (ww = 0 → M 83 i = -1)) := by
    intro h1 h2
    refine ⟨-2, M 42, ?_, fun d2 D' => ⟨M 107, ?_⟩, Or.inl rfl⟩
    · rw [px_uR_id]; exact h1
    · rw [px_uR_id, px_uR_id]; exact h2 d2 D'
  have badF : (v < 0 ∨ nI n ≤ v) → ∃ w st, px_ex px_tab (d + 5) 136 [Value.ref (13), Value.int (v), Value.int (t), Value.int (y)] (hp (M) (J) (R) (38) (43) nL xs (D)) = some (some (Value.int (w)), (hp (px_uR M 42 st) (J) (R) (38) (43) nL xs (D))) ∧ (∀ (d2 : Nat) (D' : px_H), ∃ st', px_ex px_tab (d2 + 5) 192 [Value.ref (67), Value.int (v), Value.int (t), Value.int (y)] (hp (px_uR M 42 st) (J) (R) (38) (43) nL xs (D')) = some (some (Value.int (w)), (hp (px_uR (px_uR M 42 st) 107 st') (J) (R) (38) (43) nL xs (D')))) ∧ (w = -2 ∨ ∃ i j ww, i < n ∧ v = nI i ∧ j < tn ∧ t = nI j ∧ w = nI ww ∧ ww < 2 ^ 31 ∧ (ww = 0 → M 83 i = -1)) := by
    intro h
    refine bad ?_ (fun d2 D' => ?_)
    · rw [xX11_liftRefusal]
      simp only [px_bd_s, px_psh_s, px_psh_n, px_vb_s, px_ib_s, px_wb_s, px_bo_s, px_bo_n, Bool.cond_decide, cond_true, cond_false, ite_not, Bool.and_true, if_true, if_false, not_true_eq_false, not_false_eq_true, i10, eq_self, decide_true, decide_false, Bool.or_true, Bool.true_or, Bool.or_false, Bool.false_or, eX11_liftRefusal_38_0, eX11_liftRefusal_38_0_4_b, eX11_liftRefusal_38_33, c_findAt_n _ _ _ _ _ _ _ _ _ hF.2.1 v h]
    · rw [xX12_why]
      simp only [px_bd_s, px_psh_s, px_psh_n, px_vb_s, px_ib_s, px_wb_s, px_bo_s, px_bo_n, Bool.cond_decide, cond_true, cond_false, ite_not, Bool.and_true, if_true, if_false, not_true_eq_false, not_false_eq_true, i10, eq_self, decide_true, decide_false, Bool.or_true, Bool.true_or, Bool.or_false, Bool.false_or, eX12_why_0, eX12_why_0_3, eX12_why_39, eX12_why_41, m_isFind (d2 + 2) _ _ _ _ _ _ _ _, hF.2.2.1, in_n (show n < 2 ^ 31 by omega) h]
  rcases pk_ix v (n := n) (by omega) with h | h | ⟨i, hi, rfl⟩
  · exact badF (Or.inl h)
  · exact badF (Or.inr h)
  clear badF
  obtain ⟨a1, a2, ⟨⟨k, hk, h0⟩, a3⟩, a4⟩ := hF.2.2.2.2.1 i hi
  have cf := c_findAt_y (d + 3) M J R 38 43 nL xs D hn hF.2.1 i hi a1
  have mf : ∀ (d2 : Nat) (D' : px_H), px_ex px_tab (d2 + 4) 167 [.ref 67, .int (nI i)] (hp M J R 38 43 nL xs D') = some (some (.int 1), hp M J R 38 43 nL xs D') := fun d2 D' => (m_isFind (d2 + 2) _ _ _ _ _ _ _ _ _).trans (by rw [hF.2.2.1, in_y hi (by omega)])
  have badT : (t < 0 ∨ nI tn ≤ t) → ∃ w st, px_ex px_tab (d + 5) 136 [Value.ref (13), Value.int (nI i), Value.int (t), Value.int (y)] (hp (M) (J) (R) (38) (43) nL xs (D)) = some (some (Value.int (w)), (hp (px_uR M 42 st) (J) (R) (38) (43) nL xs (D))) ∧ (∀ (d2 : Nat) (D' : px_H), ∃ st', px_ex px_tab (d2 + 5) 192 [Value.ref (67), Value.int (nI i), Value.int (t), Value.int (y)] (hp (px_uR M 42 st) (J) (R) (38) (43) nL xs (D')) = some (some (Value.int (w)), (hp (px_uR (px_uR M 42 st) 107 st') (J) (R) (38) (43) nL xs (D')))) ∧ (w = -2 ∨ ∃ i' j ww, i' < n ∧ nI i = nI i' ∧ j < tn ∧ t = nI j ∧ w = nI ww ∧ ww < 2 ^ 31 ∧ (ww = 0 → M 83 i' = -1)) := by
    intro h
    refine bad ?_ (fun d2 D' => ?_)
    · rw [xX11_liftRefusal]
      simp only [px_bd_s, px_psh_s, px_psh_n, px_vb_s, px_ib_s, px_wb_s, px_bo_s, px_bo_n, Bool.cond_decide, cond_true, cond_false, ite_not, Bool.and_true, if_true, if_false, not_true_eq_false, not_false_eq_true, i10, eq_self, decide_true, decide_false, Bool.or_true, Bool.true_or, Bool.or_false, Bool.false_or, eX11_liftRefusal_38_0, eX11_liftRefusal_38_0_4, eX11_liftRefusal_38_0_11, eX11_liftRefusal_38_33, cf, c_hasTank_n _ _ _ _ _ _ _ _ _ h28 h]
    · rw [xX12_why]
      simp only [px_bd_s, px_psh_s, px_psh_n, px_vb_s, px_ib_s, px_wb_s, px_bo_s, px_bo_n, Bool.cond_decide, cond_true, cond_false, ite_not, Bool.and_true, if_true, if_false, not_true_eq_false, not_false_eq_true, i10, eq_self, decide_true, decide_false, Bool.or_true, Bool.true_or, Bool.or_false, Bool.false_or, eX12_why_0, eX12_why_0_3, eX12_why_39, eX12_why_0_11, eX12_why_41, mf, c_in, h67, in_n (show tn < 2 ^ 31 by omega) h]
  rcases pk_ix t (n := tn) (by omega) with h | h | ⟨j, hj, rfl⟩
  · exact badT (Or.inl h)
  · exact badT (Or.inr h)
  clear badT
  have ctk := c_hasTank_y (d + 3) M J R 38 43 nL xs D ht h28 hj
  by_cases hy : 0 ≤ y ∧ y ≤ 999
  · clear bad
    obtain ⟨r1, r2, r3⟩ := hrow j hj
    obtain ⟨y1, y2, y3⟩ := c_yref (d + 2) M J R 38 43 nL xs D hF hi hk h0 ht hj r1 r2
    have c36 : ∀ r, px_run (px_mk (kX11_liftRefusal (px_ex px_tab (d + 4)))) 36 ([some (.ref 13), some (.int (nI i)), some (.int (nI j)), some (.int y), some (.ref (111 + P i)), none, none], [], hp M J R 38 43 nL xs D) = r → px_ex px_tab (d + 5) 136 [Value.ref (13), Value.int (nI i), Value.int (nI j), Value.int (y)] (hp (M) (J) (R) (38) (43) nL xs (D)) = r := by
      rintro r rfl
      rw [xX11_liftRefusal]
      simp only [px_bd_s, px_psh_s, px_psh_n, px_vb_s, px_ib_s, px_wb_s, px_bo_s, px_bo_n, Bool.cond_decide, cond_true, cond_false, ite_not, Bool.and_true, if_true, if_false, not_true_eq_false, not_false_eq_true, i10, eq_self, decide_true, decide_false, Bool.or_true, Bool.true_or, Bool.or_false, Bool.false_or, eX11_liftRefusal_38_0, eX11_liftRefusal_38_0_4, eX11_liftRefusal_38_0_11, eX11_liftRefusal_38_0_14, cf, ctk, c_isDay, px_in_1 hy]
    have mh : ∀ (d2 : Nat) (st : Nat → Int32) (D' : px_H), px_ex px_tab (d2 + 5) 192 [Value.ref (67), Value.int (nI i), Value.int (nI j), Value.int (y)] (hp (px_uR M 42 st) (J) (R) (38) (43) nL xs (D')) = px_bd (px_ex px_tab (d2 + 4) 191 [.ref 67, .int (nI i), .int (nI j), .int y] (hp (px_uR M 42 st) J R 38 43 nL xs D')) (fun v G1 => px_p (kX12_why (px_ex px_tab (d2 + 4))) 0 20 ([some (.ref 67), some (.int (nI i)), some (.int (nI j)), some (.int y)], px_psh v [], G1)) := by
      intro d2 st D'
      have mf' := m_isFind (d2 + 2) (px_uR M 42 st) J R 38 43 nL xs D' (nI i)
      rw [show px_uR M 42 st 67 13 = M 67 13 from rfl, hF.2.2.1, in_y hi (by omega)] at mf'
      have e67 : px_uR M 42 st 67 22 = nI tn := h67
      rw [xX12_why]
      simp only [px_bd_s, px_psh_s, px_psh_n, px_vb_s, px_ib_s, px_wb_s, px_bo_s, px_bo_n, Bool.cond_decide, cond_true, cond_false, ite_not, Bool.and_true, if_true, if_false, not_true_eq_false, not_false_eq_true, i10, eq_self, decide_true, decide_false, Bool.or_true, Bool.true_or, Bool.or_false, Bool.false_or, eX12_why_0, eX12_why_0_3, eX12_why_0_11, eX12_why_0_14, mf', c_in, e67, in_y hj (show tn < 2 ^ 31 by omega), m_isDay, px_in_1 hy]
    by_cases hm1 : M 83 i = -1
    · by_cases hu : und k (M 85 j)
      · have y3 := y3 hm1 hu
        by_cases hroom : ac (fun k => if M 83 k = nI j then M 80 k else 0) n 0 0 + M 80 i ≤ M 86 j
        · rw [if_pos hroom] at y3
          obtain ⟨st, hst⟩ := c_firstHolding_38 d J R 38 43 nL xs D M hI a2 y
          have hmod : ∀ (d2 : Nat) (D' : px_H), ∃ st', px_ex px_tab (d2 + 5) 192 [Value.ref (67), Value.int (nI i), Value.int (nI j), Value.int (y)] (hp (px_uR M 42 st) (J) (R) (38) (43) nL xs (D')) = some (some (Value.int (if fhd (vbr (cdf (M 96)) (M 97) (nmv (M 77 i) (M 80 i) (M 79 i) (M 78 i) y) pt) nb 0 = -1 then 0 else 4 + fhd (vbr (cdf (M 96)) (M 97) (nmv (M 77 i) (M 80 i) (M 79 i) (M 78 i) y) pt) nb 0)), (hp (px_uR (px_uR M 42 st) 107 st') (J) (R) (38) (43) nL xs (D'))) := by
            intro d2 D'
            obtain ⟨s2, h2⟩ := m_hind_l (d2 + 1) J R 38 43 nL xs D' (nb := nb) (f := i) (pt := pt) (cb := M 38 0) (en := M 39) (sp := M 40) (opd := M 41) (by omega) y nb 0 (px_uR M 42 st) hI (by omega)
            refine ⟨s2, ?_⟩
            rw [nI_0] at h2
            have h2 : px_run (px_mk (kX12_hinders (px_ex px_tab (d2 + 3)))) 59 ([some (.ref 67), some (.int (nI i)), none, some (.int y), some (.int 0)], [], hp (px_uR M 42 st) J R 38 43 nL xs D') = some (some (Value.int (if fhd (vbr (cdf (M 96)) (M 97) (nmv (M 77 i) (M 80 i) (M 79 i) (M 78 i) y) pt) nb 0 = -1 then 0 else 4 + fhd (vbr (cdf (M 96)) (M 97) (nmv (M 77 i) (M 80 i) (M 79 i) (M 78 i) y) pt) nb 0)), (hp (px_uR (px_uR M 42 st) 107 s2) (J) (R) (38) (43) nL xs (D'))) := h2
            rw [mh d2 st D', xX12_hinders]
            have e83 : px_uR M 42 st 83 i = -1 := hm1
            have e77 : px_uR M 42 st 77 i = nI k := h0
            have mt := m_inTank (d2 + 2) (px_uR M 42 st) J R 38 43 nL xs D' hn hF.2.2.1 (j := j) 1
            have hroom' : ac (fun k => if px_uR M 42 st 83 k = nI j then px_uR M 42 st 80 k else 0) n 0 0 + px_uR M 42 st 80 i ≤ px_uR M 42 st 86 j := hroom
            simp (disch := omega) only [px_bd_s, px_psh_s, px_psh_n, px_vb_s, px_ib_s, px_wb_s, px_bo_s, px_bo_n, Bool.cond_decide, cond_true, cond_false, ite_not, Bool.and_true, if_true, if_false, not_true_eq_false, not_false_eq_true, i10, eq_self, decide_true, decide_false, Bool.or_true, Bool.true_or, Bool.or_false, Bool.false_or, eX12_hinders_0, eX12_hinders_12, eX12_hinders_12_9, eX12_hinders_32, eX12_hinders_32_4, eX12_hinders_56, px_inbT, nI_clamp, e83, e77, (m_isUnder (d2 + 2) (px_uR M 42 st) J R 38 43 nL xs D' hk (px_uR M 42 st 85 j)).1 hu, mt, if_pos hroom', h2, eX12_why_41, eX12_why_0_20]
          have ecl : nmv (fdF (M 77) (M 78) (M 79) (M 80) (M 81) (M 83) (M 84) i 0) (fdF (M 77) (M 78) (M 79) (M 80) (M 81) (M 83) (M 84) i 3) (fdF (M 77) (M 78) (M 79) (M 80) (M 81) (M 83) (M 84) i 2) (fdF (M 77) (M 78) (M 79) (M 80) (M 81) (M 83) (M 84) i 1) y = nmv (M 77 i) (M 80 i) (M 79 i) (M 78 i) y := rfl
          rw [ecl] at hst
          rcases fhd_or (vbr (cdf (M 96)) (M 97) (nmv (M 77 i) (M 80 i) (M 79 i) (M 78 i) y) pt) nb 0 with hz | ⟨z, hz1, hz⟩
          · rw [hz, if_pos rfl] at hmod
            rw [hz] at hst
            refine ⟨0, st, c36 _ ?_, hmod, Or.inr ⟨i, j, 0, hi, rfl, hj, rfl, rfl, by decide, fun _ => hm1⟩⟩
            simp only [px_bd_s, px_psh_s, px_psh_n, px_vb_s, px_ib_s, px_wb_s, px_bo_s, px_bo_n, Bool.cond_decide, cond_true, cond_false, ite_not, Bool.and_true, if_true, if_false, not_true_eq_false, not_false_eq_true, i10, eq_self, decide_true, decide_false, Bool.or_true, Bool.true_or, Bool.or_false, Bool.false_or, eX11_liftRefusal_38_36, eX11_liftRefusal_38_36_5, eX11_liftRefusal_38_56, eX11_liftRefusal_38_56_6, eX11_liftRefusal_38_84, y3, hst, show ¬ (0 : Int32) ≤ -1 from by decide]
          · rw [hz, if_neg (nI_n1 (show z < 2 ^ 31 by have := hI.1; omega))] at hmod
            rw [hz] at hst
            have e4 : (4 : Int32) + nI z = nI (4 + z) := nI_add 4 z
            rw [e4] at hmod
            refine ⟨nI (4 + z), st, c36 _ ?_, hmod, Or.inr ⟨i, j, 4 + z, hi, rfl, hj, rfl, rfl, by have := hI.1; omega, fun q => by omega⟩⟩
            simp only [px_bd_s, px_psh_s, px_psh_n, px_vb_s, px_ib_s, px_wb_s, px_bo_s, px_bo_n, Bool.cond_decide, cond_true, cond_false, ite_not, Bool.and_true, if_true, if_false, not_true_eq_false, not_false_eq_true, i10, eq_self, decide_true, decide_false, Bool.or_true, Bool.true_or, Bool.or_false, Bool.false_or, eX11_liftRefusal_38_36, eX11_liftRefusal_38_36_5, eX11_liftRefusal_38_56, eX11_liftRefusal_38_56_6, eX11_liftRefusal_38_80, eX11_liftRefusal_38_84, y3, hst, if_pos (nI_pos' (show z < 2 ^ 31 by have := hI.1; omega)), e4]
        · rw [if_neg hroom] at y3
          refine ⟨3, M 42, c36 _ ?_, fun d2 D' => ⟨M 107, ?_⟩, Or.inr ⟨i, j, 3, hi, rfl, hj, rfl, rfl, by decide, fun q => by omega⟩⟩
          · rw [px_uR_id]
            simp only [px_bd_s, px_psh_s, px_psh_n, px_vb_s, px_ib_s, px_wb_s, px_bo_s, px_bo_n, Bool.cond_decide, cond_true, cond_false, ite_not, Bool.and_true, if_true, if_false, not_true_eq_false, not_false_eq_true, i10, eq_self, decide_true, decide_false, Bool.or_true, Bool.true_or, Bool.or_false, Bool.false_or, eX11_liftRefusal_38_36, eX11_liftRefusal_38_36_5, y3, show ¬ (3 : Int32) = 0 from by decide]
          · rw [mh d2 (M 42) D', xX12_hinders, px_uR_id, px_uR_id]
            have mt := m_inTank (d2 + 2) M J R 38 43 nL xs D' hn hF.2.2.1 (j := j) 1
            simp (disch := omega) only [px_bd_s, px_psh_s, px_psh_n, px_vb_s, px_ib_s, px_wb_s, px_bo_s, px_bo_n, Bool.cond_decide, cond_true, cond_false, ite_not, Bool.and_true, if_true, if_false, not_true_eq_false, not_false_eq_true, i10, eq_self, decide_true, decide_false, Bool.or_true, Bool.true_or, Bool.or_false, Bool.false_or, eX12_hinders_0, eX12_hinders_12, eX12_hinders_12_9, eX12_hinders_32, eX12_hinders_32_4, px_inbT, nI_clamp, hm1, h0, (m_isUnder (d2 + 2) M J R 38 43 nL xs D' hk (M 85 j)).1 hu, mt, if_neg hroom, eX12_why_41, eX12_why_0_20]
      · have y2 := y2 hm1 hu
        refine ⟨2, M 42, c36 _ ?_, fun d2 D' => ⟨M 107, ?_⟩, Or.inr ⟨i, j, 2, hi, rfl, hj, rfl, rfl, by decide, fun q => by omega⟩⟩
        · rw [px_uR_id]
          simp only [px_bd_s, px_psh_s, px_psh_n, px_vb_s, px_ib_s, px_wb_s, px_bo_s, px_bo_n, Bool.cond_decide, cond_true, cond_false, ite_not, Bool.and_true, if_true, if_false, not_true_eq_false, not_false_eq_true, i10, eq_self, decide_true, decide_false, Bool.or_true, Bool.true_or, Bool.or_false, Bool.false_or, eX11_liftRefusal_38_36, eX11_liftRefusal_38_36_5, y2, show ¬ (2 : Int32) = 0 from by decide]
        · rw [mh d2 (M 42) D', xX12_hinders, px_uR_id, px_uR_id]
          simp (disch := omega) only [px_bd_s, px_psh_s, px_psh_n, px_vb_s, px_ib_s, px_wb_s, px_bo_s, px_bo_n, Bool.cond_decide, cond_true, cond_false, ite_not, Bool.and_true, if_true, if_false, not_true_eq_false, not_false_eq_true, i10, eq_self, decide_true, decide_false, Bool.or_true, Bool.true_or, Bool.or_false, Bool.false_or, eX12_hinders_0, eX12_hinders_12, eX12_hinders_12_9, px_inbT, nI_clamp, hm1, h0, (m_isUnder (d2 + 2) M J R 38 43 nL xs D' hk (M 85 j)).2 hu, eX12_why_41, eX12_why_0_20]
    · have y1 := y1 hm1
      refine ⟨1, M 42, c36 _ ?_, fun d2 D' => ⟨M 107, ?_⟩, Or.inr ⟨i, j, 1, hi, rfl, hj, rfl, rfl, by decide, fun q => by omega⟩⟩
      · rw [px_uR_id]
        simp only [px_bd_s, px_psh_s, px_psh_n, px_vb_s, px_ib_s, px_wb_s, px_bo_s, px_bo_n, Bool.cond_decide, cond_true, cond_false, ite_not, Bool.and_true, if_true, if_false, not_true_eq_false, not_false_eq_true, i10, eq_self, decide_true, decide_false, Bool.or_true, Bool.true_or, Bool.or_false, Bool.false_or, eX11_liftRefusal_38_36, eX11_liftRefusal_38_36_5, y1]
      · rw [mh d2 (M 42) D', xX12_hinders, px_uR_id, px_uR_id]
        simp (disch := omega) only [px_bd_s, px_psh_s, px_psh_n, px_vb_s, px_ib_s, px_wb_s, px_bo_s, px_bo_n, Bool.cond_decide, cond_true, cond_false, ite_not, Bool.and_true, if_true, if_false, not_true_eq_false, not_false_eq_true, i10, eq_self, decide_true, decide_false, Bool.or_true, Bool.true_or, Bool.or_false, Bool.false_or, eX12_hinders_0, px_inbT, nI_clamp, hm1, eX12_why_41, eX12_why_0_20]
  · refine bad ?_ (fun d2 D' => ?_)
    · rw [xX11_liftRefusal]
      simp only [px_bd_s, px_psh_s, px_psh_n, px_vb_s, px_ib_s, px_wb_s, px_bo_s, px_bo_n, Bool.cond_decide, cond_true, cond_false, ite_not, Bool.and_true, if_true, if_false, not_true_eq_false, not_false_eq_true, i10, eq_self, decide_true, decide_false, Bool.or_true, Bool.true_or, Bool.or_false, Bool.false_or, eX11_liftRefusal_38_0, eX11_liftRefusal_38_0_4, eX11_liftRefusal_38_0_11, eX11_liftRefusal_38_33, eX11_liftRefusal_38_0_14, cf, ctk, c_isDay, px_in_00 hy]
    · rw [xX12_why]
      simp only [px_bd_s, px_psh_s, px_psh_n, px_vb_s, px_ib_s, px_wb_s, px_bo_s, px_bo_n, Bool.cond_decide, cond_true, cond_false, ite_not, Bool.and_true, if_true, if_false, not_true_eq_false, not_false_eq_true, i10, eq_self, decide_true, decide_false, Bool.or_true, Bool.true_or, Bool.or_false, Bool.false_or, eX12_why_0, eX12_why_0_3, eX12_why_39, eX12_why_0_11, eX12_why_41, eX12_why_0_14, mf, c_in, h67, in_y hj (show tn < 2 ^ 31 by omega), m_isDay, px_in_00 hy]
theorem t_worth_38 {n nb : Nat} {P pt : Nat → Nat} {H : Nat → Nat → Int32} (hF : IFn n P H (M 28 0) (M 67 13) (R 29) D (M 77) (M 78) (M 79) (M 80) (M 81) (M 82) (M 83) (M 84)) (hI : IRc nb pt (M 38 0) (M 67 38) (M 39) (M 40) (M 41) (M 96) (M 97) (M 98)) (v y u : Int32) : ∃ w st st', px_ex px_tab (d + 5) 147 [Value.ref (13), Value.int (v), Value.int (y), Value.int (u)] (hp (M) (J) (R) (38) (43) nL xs (D)) = some (some (Value.long (w)), (hp (px_uR M 42 st) (J) (R) (38) (43) nL xs (D))) ∧ px_ex px_tab (d + 5) 231 [Value.ref (67), Value.int (v), Value.int (y), Value.int (u)] (hp (px_uR M 42 st) (J) (R) (38) (43) nL xs (D)) = some (some (Value.long (w)), (hp (px_uR (px_uR M 42 st) 107 st') (J) (R) (38) (43) nL xs (D))) := by
  have hn := hF.1
  have hnb := hI.1
  have bad : px_ex px_tab (d + 5) 147 [Value.ref (13), Value.int (v), Value.int (y), Value.int (u)] (hp (M) (J) (R) (38) (43) nL xs (D)) = some (some (Value.long (-4611686018427387904)), (hp (M) (J) (R) (38) (43) nL xs (D))) → px_ex px_tab (d + 5) 231 [Value.ref (67), Value.int (v), Value.int (y), Value.int (u)] (hp (M) (J) (R) (38) (43) nL xs (D)) = some (some (Value.long (-4611686018427387904)), (hp (M) (J) (R) (38) (43) nL xs (D))) → ∃ w st st', px_ex px_tab (d + 5) 147 [Value.ref (13), Value.int (v), Value.int (y), Value.int (u)] (hp (M) (J) (R) (38) (43) nL xs (D)) = some (some (Value.long (w)), (hp (px_uR M 42 st) (J) (R) (38) (43) nL xs (D))) ∧ px_ex px_tab (d + 5) 231 [Value.ref (67), Value.int (v), Value.int (y), Value.int (u)] (hp (px_uR M 42 st) (J) (R) (38) (43) nL xs (D)) = some (some (Value.long (w)), (hp (px_uR (px_uR M 42 st) 107 st') (J) (R) (38) (43) nL xs (D))) := by
    intro h1 h2
    refine ⟨-4611686018427387904, M 42, M 107, ?_, ?_⟩
    · rw [px_uR_id]; exact h1
    · rw [px_uR_id, px_uR_id]; exact h2
  have badF : (v < 0 ∨ nI n ≤ v) → ∃ w st st', px_ex px_tab (d + 5) 147 [Value.ref (13), Value.int (v), Value.int (y), Value.int (u)] (hp (M) (J) (R) (38) (43) nL xs (D)) = some (some (Value.long (w)), (hp (px_uR M 42 st) (J) (R) (38) (43) nL xs (D))) ∧ px_ex px_tab (d + 5) 231 [Value.ref (67), Value.int (v), Value.int (y), Value.int (u)] (hp (px_uR M 42 st) (J) (R) (38) (43) nL xs (D)) = some (some (Value.long (w)), (hp (px_uR (px_uR M 42 st) 107 st') (J) (R) (38) (43) nL xs (D))) := by
    intro h
    refine bad ?_ ?_
    · rw [xX11_worth]
      simp only [px_bd_s, px_psh_s, px_psh_n, px_vb_s, px_ib_s, px_wb_s, px_bo_s, px_bo_n, Bool.cond_decide, cond_true, cond_false, ite_not, Bool.and_true, if_true, if_false, not_true_eq_false, not_false_eq_true, i10, eq_self, decide_true, decide_false, Bool.or_true, Bool.true_or, Bool.or_false, Bool.false_or, eX11_worth_38_0, eX11_worth_38_0_4_b, eX11_worth_38_40, c_findAt_n _ _ _ _ _ _ _ _ _ hF.2.1 v h]
    · rw [xX12_worth]
      simp only [px_bd_s, px_psh_s, px_psh_n, px_vb_s, px_ib_s, px_wb_s, px_bo_s, px_bo_n, Bool.cond_decide, cond_true, cond_false, ite_not, Bool.and_true, if_true, if_false, not_true_eq_false, not_false_eq_true, i10, eq_self, decide_true, decide_false, Bool.or_true, Bool.true_or, Bool.or_false, Bool.false_or, eX12_worth_0, eX12_worth_0_3, eX12_worth_40, eX12_worth_43, m_isFind (d + 2) _ _ _ _ _ _ _ _, hF.2.2.1, in_n (show n < 2 ^ 31 by omega) h]
  rcases pk_ix v (n := n) (by omega) with h | h | ⟨i, hi, rfl⟩
  · exact badF (Or.inl h)
  · exact badF (Or.inr h)
  clear badF
  obtain ⟨a1, a2, a3, a4⟩ := hF.2.2.2.2.1 i hi
  have cf := c_findAt_y (d + 3) M J R 38 43 nL xs D hn hF.2.1 i hi a1
  have mf := (m_isFind (d + 2) M J R 38 43 nL xs D (nI i)).trans (by rw [hF.2.2.1, in_y hi (by omega)])
  by_cases hy : 0 ≤ y ∧ y ≤ 999
  · rcases pk_ix u (n := nb) (by omega) with h | h | ⟨b, hb, rfl⟩
    · refine bad ?_ ?_
      · rw [xX11_worth]
        simp only [px_bd_s, px_psh_s, px_psh_n, px_vb_s, px_ib_s, px_wb_s, px_bo_s, px_bo_n, Bool.cond_decide, cond_true, cond_false, ite_not, Bool.and_true, if_true, if_false, not_true_eq_false, not_false_eq_true, i10, eq_self, decide_true, decide_false, Bool.or_true, Bool.true_or, Bool.or_false, Bool.false_or, eX11_worth_38_0, eX11_worth_38_0_4, eX11_worth_38_0_9, eX11_worth_38_40, cf, c_isDay, px_in_1 hy, if_pos h]
      · rw [xX12_worth]
        simp only [px_bd_s, px_psh_s, px_psh_n, px_vb_s, px_ib_s, px_wb_s, px_bo_s, px_bo_n, Bool.cond_decide, cond_true, cond_false, ite_not, Bool.and_true, if_true, if_false, not_true_eq_false, not_false_eq_true, i10, eq_self, decide_true, decide_false, Bool.or_true, Bool.true_or, Bool.or_false, Bool.false_or, eX12_worth_0, eX12_worth_0_3, eX12_worth_40, eX12_worth_0_6, eX12_worth_43, eX12_worth_0_14, mf, m_isDay, px_in_1 hy, c_in, hI.2.2.1, in_n (show nb < 2 ^ 31 by omega) (Or.inl h)]
    · refine bad ?_ ?_
      · rw [xX11_worth]
        by_cases h0 : u < 0
        · simp only [px_bd_s, px_psh_s, px_psh_n, px_vb_s, px_ib_s, px_wb_s, px_bo_s, px_bo_n, Bool.cond_decide, cond_true, cond_false, ite_not, Bool.and_true, if_true, if_false, not_true_eq_false, not_false_eq_true, i10, eq_self, decide_true, decide_false, Bool.or_true, Bool.true_or, Bool.or_false, Bool.false_or, eX11_worth_38_0, eX11_worth_38_0_4, eX11_worth_38_0_9, eX11_worth_38_40, cf, c_isDay, px_in_1 hy, if_pos h0]
        · simp only [px_bd_s, px_psh_s, px_psh_n, px_vb_s, px_ib_s, px_wb_s, px_bo_s, px_bo_n, Bool.cond_decide, cond_true, cond_false, ite_not, Bool.and_true, if_true, if_false, not_true_eq_false, not_false_eq_true, i10, eq_self, decide_true, decide_false, Bool.or_true, Bool.true_or, Bool.or_false, Bool.false_or, eX11_worth_38_0, eX11_worth_38_0_4, eX11_worth_38_0_9, eX11_worth_38_40, cf, c_isDay, px_in_1 hy, if_neg h0, hI.2.1, if_neg (Int32.not_lt.mpr h)]
      · rw [xX12_worth]
        simp only [px_bd_s, px_psh_s, px_psh_n, px_vb_s, px_ib_s, px_wb_s, px_bo_s, px_bo_n, Bool.cond_decide, cond_true, cond_false, ite_not, Bool.and_true, if_true, if_false, not_true_eq_false, not_false_eq_true, i10, eq_self, decide_true, decide_false, Bool.or_true, Bool.true_or, Bool.or_false, Bool.false_or, eX12_worth_0, eX12_worth_0_3, eX12_worth_40, eX12_worth_0_6, eX12_worth_43, eX12_worth_0_14, mf, m_isDay, px_in_1 hy, c_in, hI.2.2.1, in_n (show nb < 2 ^ 31 by omega) (Or.inr h)]
    · obtain ⟨st, hst⟩ := c_valueOf_38 (d + 1) J R 38 43 nL xs D M hI a2 hb y
      obtain ⟨st', hst'⟩ := m_worked (d + 2) J R 38 43 nL xs D (cb := M 38 0) (en := M 39) (sp := M 40) (opd := M 41) (px_uR M 42 st) hI (show i < 20 by omega) hb y
      refine ⟨Int32.toInt64 (vbr (cdf (M 96)) (M 97) (nmv (M 77 i) (M 80 i) (M 79 i) (M 78 i) y) pt b), st, st', ?_, ?_⟩
      · rw [xX11_worth]
        simp (disch := omega) only [px_bd_s, px_psh_s, px_psh_n, px_vb_s, px_ib_s, px_wb_s, px_bo_s, px_bo_n, Bool.cond_decide, cond_true, cond_false, ite_not, Bool.and_true, if_true, if_false, not_true_eq_false, not_false_eq_true, i10, eq_self, decide_true, decide_false, Bool.or_true, Bool.true_or, Bool.or_false, Bool.false_or, eX11_worth_38_0, eX11_worth_38_0_4, eX11_worth_38_0_9, eX11_worth_38_44, eX11_worth_38_44_7, cf, c_isDay, px_in_1 hy, if_neg (nI_pos (show b < 2 ^ 31 by omega)), hI.2.1, nI_ltI, if_pos hb, hst]
        rfl
      · have mf' := m_isFind (d + 2) (px_uR M 42 st) J R 38 43 nL xs D (nI i)
        rw [show px_uR M 42 st 67 13 = M 67 13 from rfl, hF.2.2.1, in_y hi (by omega)] at mf'
        have e38 : px_uR M 42 st 67 38 = nI nb := hI.2.2.1
        rw [xX12_worth]
        simp only [px_bd_s, px_psh_s, px_psh_n, px_vb_s, px_ib_s, px_wb_s, px_bo_s, px_bo_n, Bool.cond_decide, cond_true, cond_false, ite_not, Bool.and_true, if_true, if_false, not_true_eq_false, not_false_eq_true, i10, eq_self, decide_true, decide_false, Bool.or_true, Bool.true_or, Bool.or_false, Bool.false_or, eX12_worth_0, eX12_worth_0_3, eX12_worth_0_6, eX12_worth_43, eX12_worth_0_14, eX12_worth_0_20, mf', m_isDay, px_in_1 hy, c_in, e38, in_y hb (show nb < 2 ^ 31 by omega), hst']
        rfl
  · refine bad ?_ ?_
    · rw [xX11_worth]
      simp only [px_bd_s, px_psh_s, px_psh_n, px_vb_s, px_ib_s, px_wb_s, px_bo_s, px_bo_n, Bool.cond_decide, cond_true, cond_false, ite_not, Bool.and_true, if_true, if_false, not_true_eq_false, not_false_eq_true, i10, eq_self, decide_true, decide_false, Bool.or_true, Bool.true_or, Bool.or_false, Bool.false_or, eX11_worth_38_0, eX11_worth_38_0_4, eX11_worth_38_0_9, eX11_worth_38_40, cf, c_isDay, px_in_00 hy]
    · rw [xX12_worth]
      simp only [px_bd_s, px_psh_s, px_psh_n, px_vb_s, px_ib_s, px_wb_s, px_bo_s, px_bo_n, Bool.cond_decide, cond_true, cond_false, ite_not, Bool.and_true, if_true, if_false, not_true_eq_false, not_false_eq_true, i10, eq_self, decide_true, decide_false, Bool.or_true, Bool.true_or, Bool.or_false, Bool.false_or, eX12_worth_0, eX12_worth_0_3, eX12_worth_40, eX12_worth_0_6, eX12_worth_43, mf, m_isDay, px_in_00 hy]
theorem core_43 {n tn nb : Nat} {P pt : Nat → Nat} {H : Nat → Nat → Int32} (hF : IFn n P H (M 28 0) (M 67 13) (R 29) D (M 77) (M 78) (M 79) (M 80) (M 81) (M 82) (M 83) (M 84)) (ht : tn ≤ 6) (h28 : M 28 1 = nI tn) (h67 : M 67 22 = nI tn) (hrow : ∀ j, j < tn → M 30 j = M 85 j ∧ M 31 j = M 86 j ∧ ∃ a, a ≤ 5 ∧ M 85 j = nI a) (hI : IRc nb pt (M 43 0) (M 67 38) (M 44) (M 45) (M 46) (M 96) (M 97) (M 98)) (v t y : Int32) : ∃ w st, px_ex px_tab (d + 5) 136 [Value.ref (13), Value.int (v), Value.int (t), Value.int (y)] (hp (M) (J) (R) (43) (38) nL xs (D)) = some (some (Value.int (w)), (hp (px_uR M 47 st) (J) (R) (43) (38) nL xs (D))) ∧ (∀ (d2 : Nat) (D' : px_H), ∃ st', px_ex px_tab (d2 + 5) 192 [Value.ref (67), Value.int (v), Value.int (t), Value.int (y)] (hp (px_uR M 47 st) (J) (R) (43) (38) nL xs (D')) = some (some (Value.int (w)), (hp (px_uR (px_uR M 47 st) 107 st') (J) (R) (43) (38) nL xs (D')))) ∧ (w = -2 ∨ ∃ i j ww, i < n ∧ v = nI i ∧ j < tn ∧ t = nI j ∧ w = nI ww ∧ ww < 2 ^ 31 ∧ (ww = 0 → M 83 i = -1)) := by
  have hn := hF.1
  have bad : px_ex px_tab (d + 5) 136 [Value.ref (13), Value.int (v), Value.int (t), Value.int (y)] (hp (M) (J) (R) (43) (38) nL xs (D)) = some (some (Value.int (-2)), (hp (M) (J) (R) (43) (38) nL xs (D))) → (∀ (d2 : Nat) (D' : px_H), px_ex px_tab (d2 + 5) 192 [Value.ref (67), Value.int (v), Value.int (t), Value.int (y)] (hp (M) (J) (R) (43) (38) nL xs (D')) = some (some (Value.int (-2)), (hp (M) (J) (R) (43) (38) nL xs (D')))) → ∃ w st, px_ex px_tab (d + 5) 136 [Value.ref (13), Value.int (v), Value.int (t), Value.int (y)] (hp (M) (J) (R) (43) (38) nL xs (D)) = some (some (Value.int (w)), (hp (px_uR M 47 st) (J) (R) (43) (38) nL xs (D))) ∧ (∀ (d2 : Nat) (D' : px_H), ∃ st', px_ex px_tab (d2 + 5) 192 [Value.ref (67), Value.int (v), Value.int (t), Value.int (y)] (hp (px_uR M 47 st) (J) (R) (43) (38) nL xs (D')) = some (some (Value.int (w)), (hp (px_uR (px_uR M 47 st) 107 st') (J) (R) (43) (38) nL xs (D')))) ∧ (w = -2 ∨ ∃ i j ww, i < n ∧ v = nI i ∧ j < tn ∧ t = nI j ∧ w = nI ww ∧ ww < 2 ^ 31 ∧ (ww = 0 → M 83 i = -1)) := by
    intro h1 h2
    refine ⟨-2, M 47, ?_, fun d2 D' => ⟨M 107, ?_⟩, Or.inl rfl⟩
    · rw [px_uR_id]; exact h1
    · rw [px_uR_id, px_uR_id]; exact h2 d2 D'
  have badF : (v < 0 ∨ nI n ≤ v) → ∃ w st, px_ex px_tab (d + 5) 136 [Value.ref (13), Value.int (v), Value.int (t), Value.int (y)] (hp (M) (J) (R) (43) (38) nL xs (D)) = some (some (Value.int (w)), (hp (px_uR M 47 st) (J) (R) (43) (38) nL xs (D))) ∧ (∀ (d2 : Nat) (D' : px_H), ∃ st', px_ex px_tab (d2 + 5) 192 [Value.ref (67), Value.int (v), Value.int (t), Value.int (y)] (hp (px_uR M 47 st) (J) (R) (43) (38) nL xs (D')) = some (some (Value.int (w)), (hp (px_uR (px_uR M 47 st) 107 st') (J) (R) (43) (38) nL xs (D')))) ∧ (w = -2 ∨ ∃ i j ww, i < n ∧ v = nI i ∧ j < tn ∧ t = nI j ∧ w = nI ww ∧ ww < 2 ^ 31 ∧ (ww = 0 → M 83 i = -1)) := by
    intro h
    refine bad ?_ (fun d2 D' => ?_)
    · rw [xX11_liftRefusal]
      simp only [px_bd_s, px_psh_s, px_psh_n, px_vb_s, px_ib_s, px_wb_s, px_bo_s, px_bo_n, Bool.cond_decide, cond_true, cond_false, ite_not, Bool.and_true, if_true, if_false, not_true_eq_false, not_false_eq_true, i10, eq_self, decide_true, decide_false, Bool.or_true, Bool.true_or, Bool.or_false, Bool.false_or, eX11_liftRefusal_43_0, eX11_liftRefusal_43_0_4_b, eX11_liftRefusal_43_33, c_findAt_n _ _ _ _ _ _ _ _ _ hF.2.1 v h]
    · rw [xX12_why]
      simp only [px_bd_s, px_psh_s, px_psh_n, px_vb_s, px_ib_s, px_wb_s, px_bo_s, px_bo_n, Bool.cond_decide, cond_true, cond_false, ite_not, Bool.and_true, if_true, if_false, not_true_eq_false, not_false_eq_true, i10, eq_self, decide_true, decide_false, Bool.or_true, Bool.true_or, Bool.or_false, Bool.false_or, eX12_why_0, eX12_why_0_3, eX12_why_39, eX12_why_41, m_isFind (d2 + 2) _ _ _ _ _ _ _ _, hF.2.2.1, in_n (show n < 2 ^ 31 by omega) h]
  rcases pk_ix v (n := n) (by omega) with h | h | ⟨i, hi, rfl⟩
  · exact badF (Or.inl h)
  · exact badF (Or.inr h)
  clear badF
  obtain ⟨a1, a2, ⟨⟨k, hk, h0⟩, a3⟩, a4⟩ := hF.2.2.2.2.1 i hi
  have cf := c_findAt_y (d + 3) M J R 43 38 nL xs D hn hF.2.1 i hi a1
  have mf : ∀ (d2 : Nat) (D' : px_H), px_ex px_tab (d2 + 4) 167 [.ref 67, .int (nI i)] (hp M J R 43 38 nL xs D') = some (some (.int 1), hp M J R 43 38 nL xs D') := fun d2 D' => (m_isFind (d2 + 2) _ _ _ _ _ _ _ _ _).trans (by rw [hF.2.2.1, in_y hi (by omega)])
  have badT : (t < 0 ∨ nI tn ≤ t) → ∃ w st, px_ex px_tab (d + 5) 136 [Value.ref (13), Value.int (nI i), Value.int (t), Value.int (y)] (hp (M) (J) (R) (43) (38) nL xs (D)) = some (some (Value.int (w)), (hp (px_uR M 47 st) (J) (R) (43) (38) nL xs (D))) ∧ (∀ (d2 : Nat) (D' : px_H), ∃ st', px_ex px_tab (d2 + 5) 192 [Value.ref (67), Value.int (nI i), Value.int (t), Value.int (y)] (hp (px_uR M 47 st) (J) (R) (43) (38) nL xs (D')) = some (some (Value.int (w)), (hp (px_uR (px_uR M 47 st) 107 st') (J) (R) (43) (38) nL xs (D')))) ∧ (w = -2 ∨ ∃ i' j ww, i' < n ∧ nI i = nI i' ∧ j < tn ∧ t = nI j ∧ w = nI ww ∧ ww < 2 ^ 31 ∧ (ww = 0 → M 83 i' = -1)) := by
    intro h
    refine bad ?_ (fun d2 D' => ?_)
    · rw [xX11_liftRefusal]
      simp only [px_bd_s, px_psh_s, px_psh_n, px_vb_s, px_ib_s, px_wb_s, px_bo_s, px_bo_n, Bool.cond_decide, cond_true, cond_false, ite_not, Bool.and_true, if_true, if_false, not_true_eq_false, not_false_eq_true, i10, eq_self, decide_true, decide_false, Bool.or_true, Bool.true_or, Bool.or_false, Bool.false_or, eX11_liftRefusal_43_0, eX11_liftRefusal_43_0_4, eX11_liftRefusal_43_0_11, eX11_liftRefusal_43_33, cf, c_hasTank_n _ _ _ _ _ _ _ _ _ h28 h]
    · rw [xX12_why]
      simp only [px_bd_s, px_psh_s, px_psh_n, px_vb_s, px_ib_s, px_wb_s, px_bo_s, px_bo_n, Bool.cond_decide, cond_true, cond_false, ite_not, Bool.and_true, if_true, if_false, not_true_eq_false, not_false_eq_true, i10, eq_self, decide_true, decide_false, Bool.or_true, Bool.true_or, Bool.or_false, Bool.false_or, eX12_why_0, eX12_why_0_3, eX12_why_39, eX12_why_0_11, eX12_why_41, mf, c_in, h67, in_n (show tn < 2 ^ 31 by omega) h]
  rcases pk_ix t (n := tn) (by omega) with h | h | ⟨j, hj, rfl⟩
  · exact badT (Or.inl h)
  · exact badT (Or.inr h)
  clear badT
  have ctk := c_hasTank_y (d + 3) M J R 43 38 nL xs D ht h28 hj
  by_cases hy : 0 ≤ y ∧ y ≤ 999
  · clear bad
    obtain ⟨r1, r2, r3⟩ := hrow j hj
    obtain ⟨y1, y2, y3⟩ := c_yref (d + 2) M J R 43 38 nL xs D hF hi hk h0 ht hj r1 r2
    have c36 : ∀ r, px_run (px_mk (kX11_liftRefusal (px_ex px_tab (d + 4)))) 36 ([some (.ref 13), some (.int (nI i)), some (.int (nI j)), some (.int y), some (.ref (111 + P i)), none, none], [], hp M J R 43 38 nL xs D) = r → px_ex px_tab (d + 5) 136 [Value.ref (13), Value.int (nI i), Value.int (nI j), Value.int (y)] (hp (M) (J) (R) (43) (38) nL xs (D)) = r := by
      rintro r rfl
      rw [xX11_liftRefusal]
      simp only [px_bd_s, px_psh_s, px_psh_n, px_vb_s, px_ib_s, px_wb_s, px_bo_s, px_bo_n, Bool.cond_decide, cond_true, cond_false, ite_not, Bool.and_true, if_true, if_false, not_true_eq_false, not_false_eq_true, i10, eq_self, decide_true, decide_false, Bool.or_true, Bool.true_or, Bool.or_false, Bool.false_or, eX11_liftRefusal_43_0, eX11_liftRefusal_43_0_4, eX11_liftRefusal_43_0_11, eX11_liftRefusal_43_0_14, cf, ctk, c_isDay, px_in_1 hy]
    have mh : ∀ (d2 : Nat) (st : Nat → Int32) (D' : px_H), px_ex px_tab (d2 + 5) 192 [Value.ref (67), Value.int (nI i), Value.int (nI j), Value.int (y)] (hp (px_uR M 47 st) (J) (R) (43) (38) nL xs (D')) = px_bd (px_ex px_tab (d2 + 4) 191 [.ref 67, .int (nI i), .int (nI j), .int y] (hp (px_uR M 47 st) J R 43 38 nL xs D')) (fun v G1 => px_p (kX12_why (px_ex px_tab (d2 + 4))) 0 20 ([some (.ref 67), some (.int (nI i)), some (.int (nI j)), some (.int y)], px_psh v [], G1)) := by
      intro d2 st D'
      have mf' := m_isFind (d2 + 2) (px_uR M 47 st) J R 43 38 nL xs D' (nI i)
      rw [show px_uR M 47 st 67 13 = M 67 13 from rfl, hF.2.2.1, in_y hi (by omega)] at mf'
      have e67 : px_uR M 47 st 67 22 = nI tn := h67
      rw [xX12_why]
      simp only [px_bd_s, px_psh_s, px_psh_n, px_vb_s, px_ib_s, px_wb_s, px_bo_s, px_bo_n, Bool.cond_decide, cond_true, cond_false, ite_not, Bool.and_true, if_true, if_false, not_true_eq_false, not_false_eq_true, i10, eq_self, decide_true, decide_false, Bool.or_true, Bool.true_or, Bool.or_false, Bool.false_or, eX12_why_0, eX12_why_0_3, eX12_why_0_11, eX12_why_0_14, mf', c_in, e67, in_y hj (show tn < 2 ^ 31 by omega), m_isDay, px_in_1 hy]
    by_cases hm1 : M 83 i = -1
    · by_cases hu : und k (M 85 j)
      · have y3 := y3 hm1 hu
        by_cases hroom : ac (fun k => if M 83 k = nI j then M 80 k else 0) n 0 0 + M 80 i ≤ M 86 j
        · rw [if_pos hroom] at y3
          obtain ⟨st, hst⟩ := c_firstHolding_43 d J R 43 38 nL xs D M hI a2 y
          have hmod : ∀ (d2 : Nat) (D' : px_H), ∃ st', px_ex px_tab (d2 + 5) 192 [Value.ref (67), Value.int (nI i), Value.int (nI j), Value.int (y)] (hp (px_uR M 47 st) (J) (R) (43) (38) nL xs (D')) = some (some (Value.int (if fhd (vbr (cdf (M 96)) (M 97) (nmv (M 77 i) (M 80 i) (M 79 i) (M 78 i) y) pt) nb 0 = -1 then 0 else 4 + fhd (vbr (cdf (M 96)) (M 97) (nmv (M 77 i) (M 80 i) (M 79 i) (M 78 i) y) pt) nb 0)), (hp (px_uR (px_uR M 47 st) 107 st') (J) (R) (43) (38) nL xs (D'))) := by
            intro d2 D'
            obtain ⟨s2, h2⟩ := m_hind_l (d2 + 1) J R 43 38 nL xs D' (nb := nb) (f := i) (pt := pt) (cb := M 43 0) (en := M 44) (sp := M 45) (opd := M 46) (by omega) y nb 0 (px_uR M 47 st) hI (by omega)
            refine ⟨s2, ?_⟩
            rw [nI_0] at h2
            have h2 : px_run (px_mk (kX12_hinders (px_ex px_tab (d2 + 3)))) 59 ([some (.ref 67), some (.int (nI i)), none, some (.int y), some (.int 0)], [], hp (px_uR M 47 st) J R 43 38 nL xs D') = some (some (Value.int (if fhd (vbr (cdf (M 96)) (M 97) (nmv (M 77 i) (M 80 i) (M 79 i) (M 78 i) y) pt) nb 0 = -1 then 0 else 4 + fhd (vbr (cdf (M 96)) (M 97) (nmv (M 77 i) (M 80 i) (M 79 i) (M 78 i) y) pt) nb 0)), (hp (px_uR (px_uR M 47 st) 107 s2) (J) (R) (43) (38) nL xs (D'))) := h2
            rw [mh d2 st D', xX12_hinders]
            have e83 : px_uR M 47 st 83 i = -1 := hm1
            have e77 : px_uR M 47 st 77 i = nI k := h0
            have mt := m_inTank (d2 + 2) (px_uR M 47 st) J R 43 38 nL xs D' hn hF.2.2.1 (j := j) 1
            have hroom' : ac (fun k => if px_uR M 47 st 83 k = nI j then px_uR M 47 st 80 k else 0) n 0 0 + px_uR M 47 st 80 i ≤ px_uR M 47 st 86 j := hroom
            simp (disch := omega) only [px_bd_s, px_psh_s, px_psh_n, px_vb_s, px_ib_s, px_wb_s, px_bo_s, px_bo_n, Bool.cond_decide, cond_true, cond_false, ite_not, Bool.and_true, if_true, if_false, not_true_eq_false, not_false_eq_true, i10, eq_self, decide_true, decide_false, Bool.or_true, Bool.true_or, Bool.or_false, Bool.false_or, eX12_hinders_0, eX12_hinders_12, eX12_hinders_12_9, eX12_hinders_32, eX12_hinders_32_4, eX12_hinders_56, px_inbT, nI_clamp, e83, e77, (m_isUnder (d2 + 2) (px_uR M 47 st) J R 43 38 nL xs D' hk (px_uR M 47 st 85 j)).1 hu, mt, if_pos hroom', h2, eX12_why_41, eX12_why_0_20]
          have ecl : nmv (fdF (M 77) (M 78) (M 79) (M 80) (M 81) (M 83) (M 84) i 0) (fdF (M 77) (M 78) (M 79) (M 80) (M 81) (M 83) (M 84) i 3) (fdF (M 77) (M 78) (M 79) (M 80) (M 81) (M 83) (M 84) i 2) (fdF (M 77) (M 78) (M 79) (M 80) (M 81) (M 83) (M 84) i 1) y = nmv (M 77 i) (M 80 i) (M 79 i) (M 78 i) y := rfl
          rw [ecl] at hst
          rcases fhd_or (vbr (cdf (M 96)) (M 97) (nmv (M 77 i) (M 80 i) (M 79 i) (M 78 i) y) pt) nb 0 with hz | ⟨z, hz1, hz⟩
          · rw [hz, if_pos rfl] at hmod
            rw [hz] at hst
            refine ⟨0, st, c36 _ ?_, hmod, Or.inr ⟨i, j, 0, hi, rfl, hj, rfl, rfl, by decide, fun _ => hm1⟩⟩
            simp only [px_bd_s, px_psh_s, px_psh_n, px_vb_s, px_ib_s, px_wb_s, px_bo_s, px_bo_n, Bool.cond_decide, cond_true, cond_false, ite_not, Bool.and_true, if_true, if_false, not_true_eq_false, not_false_eq_true, i10, eq_self, decide_true, decide_false, Bool.or_true, Bool.true_or, Bool.or_false, Bool.false_or, eX11_liftRefusal_43_36, eX11_liftRefusal_43_36_5, eX11_liftRefusal_43_56, eX11_liftRefusal_43_56_6, eX11_liftRefusal_43_84, y3, hst, show ¬ (0 : Int32) ≤ -1 from by decide]
          · rw [hz, if_neg (nI_n1 (show z < 2 ^ 31 by have := hI.1; omega))] at hmod
            rw [hz] at hst
            have e4 : (4 : Int32) + nI z = nI (4 + z) := nI_add 4 z
            rw [e4] at hmod
            refine ⟨nI (4 + z), st, c36 _ ?_, hmod, Or.inr ⟨i, j, 4 + z, hi, rfl, hj, rfl, rfl, by have := hI.1; omega, fun q => by omega⟩⟩
            simp only [px_bd_s, px_psh_s, px_psh_n, px_vb_s, px_ib_s, px_wb_s, px_bo_s, px_bo_n, Bool.cond_decide, cond_true, cond_false, ite_not, Bool.and_true, if_true, if_false, not_true_eq_false, not_false_eq_true, i10, eq_self, decide_true, decide_false, Bool.or_true, Bool.true_or, Bool.or_false, Bool.false_or, eX11_liftRefusal_43_36, eX11_liftRefusal_43_36_5, eX11_liftRefusal_43_56, eX11_liftRefusal_43_56_6, eX11_liftRefusal_43_80, eX11_liftRefusal_43_84, y3, hst, if_pos (nI_pos' (show z < 2 ^ 31 by have := hI.1; omega)), e4]
        · rw [if_neg hroom] at y3
          refine ⟨3, M 47, c36 _ ?_, fun d2 D' => ⟨M 107, ?_⟩, Or.inr ⟨i, j, 3, hi, rfl, hj, rfl, rfl, by decide, fun q => by omega⟩⟩
          · rw [px_uR_id]
            simp only [px_bd_s, px_psh_s, px_psh_n, px_vb_s, px_ib_s, px_wb_s, px_bo_s, px_bo_n, Bool.cond_decide, cond_true, cond_false, ite_not, Bool.and_true, if_true, if_false, not_true_eq_false, not_false_eq_true, i10, eq_self, decide_true, decide_false, Bool.or_true, Bool.true_or, Bool.or_false, Bool.false_or, eX11_liftRefusal_43_36, eX11_liftRefusal_43_36_5, y3, show ¬ (3 : Int32) = 0 from by decide]
          · rw [mh d2 (M 47) D', xX12_hinders, px_uR_id, px_uR_id]
            have mt := m_inTank (d2 + 2) M J R 43 38 nL xs D' hn hF.2.2.1 (j := j) 1
            simp (disch := omega) only [px_bd_s, px_psh_s, px_psh_n, px_vb_s, px_ib_s, px_wb_s, px_bo_s, px_bo_n, Bool.cond_decide, cond_true, cond_false, ite_not, Bool.and_true, if_true, if_false, not_true_eq_false, not_false_eq_true, i10, eq_self, decide_true, decide_false, Bool.or_true, Bool.true_or, Bool.or_false, Bool.false_or, eX12_hinders_0, eX12_hinders_12, eX12_hinders_12_9, eX12_hinders_32, eX12_hinders_32_4, px_inbT, nI_clamp, hm1, h0, (m_isUnder (d2 + 2) M J R 43 38 nL xs D' hk (M 85 j)).1 hu, mt, if_neg hroom, eX12_why_41, eX12_why_0_20]
      · have y2 := y2 hm1 hu
        refine ⟨2, M 47, c36 _ ?_, fun d2 D' => ⟨M 107, ?_⟩, Or.inr ⟨i, j, 2, hi, rfl, hj, rfl, rfl, by decide, fun q => by omega⟩⟩
        · rw [px_uR_id]
          simp only [px_bd_s, px_psh_s, px_psh_n, px_vb_s, px_ib_s, px_wb_s, px_bo_s, px_bo_n, Bool.cond_decide, cond_true, cond_false, ite_not, Bool.and_true, if_true, if_false, not_true_eq_false, not_false_eq_true, i10, eq_self, decide_true, decide_false, Bool.or_true, Bool.true_or, Bool.or_false, Bool.false_or, eX11_liftRefusal_43_36, eX11_liftRefusal_43_36_5, y2, show ¬ (2 : Int32) = 0 from by decide]
        · rw [mh d2 (M 47) D', xX12_hinders, px_uR_id, px_uR_id]
          simp (disch := omega) only [px_bd_s, px_psh_s, px_psh_n, px_vb_s, px_ib_s, px_wb_s, px_bo_s, px_bo_n, Bool.cond_decide, cond_true, cond_false, ite_not, Bool.and_true, if_true, if_false, not_true_eq_false, not_false_eq_true, i10, eq_self, decide_true, decide_false, Bool.or_true, Bool.true_or, Bool.or_false, Bool.false_or, eX12_hinders_0, eX12_hinders_12, eX12_hinders_12_9, px_inbT, nI_clamp, hm1, h0, (m_isUnder (d2 + 2) M J R 43 38 nL xs D' hk (M 85 j)).2 hu, eX12_why_41, eX12_why_0_20]
    · have y1 := y1 hm1
      refine ⟨1, M 47, c36 _ ?_, fun d2 D' => ⟨M 107, ?_⟩, Or.inr ⟨i, j, 1, hi, rfl, hj, rfl, rfl, by decide, fun q => by omega⟩⟩
      · rw [px_uR_id]
        simp only [px_bd_s, px_psh_s, px_psh_n, px_vb_s, px_ib_s, px_wb_s, px_bo_s, px_bo_n, Bool.cond_decide, cond_true, cond_false, ite_not, Bool.and_true, if_true, if_false, not_true_eq_false, not_false_eq_true, i10, eq_self, decide_true, decide_false, Bool.or_true, Bool.true_or, Bool.or_false, Bool.false_or, eX11_liftRefusal_43_36, eX11_liftRefusal_43_36_5, y1]
      · rw [mh d2 (M 47) D', xX12_hinders, px_uR_id, px_uR_id]
        simp (disch := omega) only [px_bd_s, px_psh_s, px_psh_n, px_vb_s, px_ib_s, px_wb_s, px_bo_s, px_bo_n, Bool.cond_decide, cond_true, cond_false, ite_not, Bool.and_true, if_true, if_false, not_true_eq_false, not_false_eq_true, i10, eq_self, decide_true, decide_false, Bool.or_true, Bool.true_or, Bool.or_false, Bool.false_or, eX12_hinders_0, px_inbT, nI_clamp, hm1, eX12_why_41, eX12_why_0_20]
  · refine bad ?_ (fun d2 D' => ?_)
    · rw [xX11_liftRefusal]
      simp only [px_bd_s, px_psh_s, px_psh_n, px_vb_s, px_ib_s, px_wb_s, px_bo_s, px_bo_n, Bool.cond_decide, cond_true, cond_false, ite_not, Bool.and_true, if_true, if_false, not_true_eq_false, not_false_eq_true, i10, eq_self, decide_true, decide_false, Bool.or_true, Bool.true_or, Bool.or_false, Bool.false_or, eX11_liftRefusal_43_0, eX11_liftRefusal_43_0_4, eX11_liftRefusal_43_0_11, eX11_liftRefusal_43_33, eX11_liftRefusal_43_0_14, cf, ctk, c_isDay, px_in_00 hy]
    · rw [xX12_why]
      simp only [px_bd_s, px_psh_s, px_psh_n, px_vb_s, px_ib_s, px_wb_s, px_bo_s, px_bo_n, Bool.cond_decide, cond_true, cond_false, ite_not, Bool.and_true, if_true, if_false, not_true_eq_false, not_false_eq_true, i10, eq_self, decide_true, decide_false, Bool.or_true, Bool.true_or, Bool.or_false, Bool.false_or, eX12_why_0, eX12_why_0_3, eX12_why_39, eX12_why_0_11, eX12_why_41, eX12_why_0_14, mf, c_in, h67, in_y hj (show tn < 2 ^ 31 by omega), m_isDay, px_in_00 hy]
theorem t_worth_43 {n nb : Nat} {P pt : Nat → Nat} {H : Nat → Nat → Int32} (hF : IFn n P H (M 28 0) (M 67 13) (R 29) D (M 77) (M 78) (M 79) (M 80) (M 81) (M 82) (M 83) (M 84)) (hI : IRc nb pt (M 43 0) (M 67 38) (M 44) (M 45) (M 46) (M 96) (M 97) (M 98)) (v y u : Int32) : ∃ w st st', px_ex px_tab (d + 5) 147 [Value.ref (13), Value.int (v), Value.int (y), Value.int (u)] (hp (M) (J) (R) (43) (38) nL xs (D)) = some (some (Value.long (w)), (hp (px_uR M 47 st) (J) (R) (43) (38) nL xs (D))) ∧ px_ex px_tab (d + 5) 231 [Value.ref (67), Value.int (v), Value.int (y), Value.int (u)] (hp (px_uR M 47 st) (J) (R) (43) (38) nL xs (D)) = some (some (Value.long (w)), (hp (px_uR (px_uR M 47 st) 107 st') (J) (R) (43) (38) nL xs (D))) := by
  have hn := hF.1
  have hnb := hI.1
  have bad : px_ex px_tab (d + 5) 147 [Value.ref (13), Value.int (v), Value.int (y), Value.int (u)] (hp (M) (J) (R) (43) (38) nL xs (D)) = some (some (Value.long (-4611686018427387904)), (hp (M) (J) (R) (43) (38) nL xs (D))) → px_ex px_tab (d + 5) 231 [Value.ref (67), Value.int (v), Value.int (y), Value.int (u)] (hp (M) (J) (R) (43) (38) nL xs (D)) = some (some (Value.long (-4611686018427387904)), (hp (M) (J) (R) (43) (38) nL xs (D))) → ∃ w st st', px_ex px_tab (d + 5) 147 [Value.ref (13), Value.int (v), Value.int (y), Value.int (u)] (hp (M) (J) (R) (43) (38) nL xs (D)) = some (some (Value.long (w)), (hp (px_uR M 47 st) (J) (R) (43) (38) nL xs (D))) ∧ px_ex px_tab (d + 5) 231 [Value.ref (67), Value.int (v), Value.int (y), Value.int (u)] (hp (px_uR M 47 st) (J) (R) (43) (38) nL xs (D)) = some (some (Value.long (w)), (hp (px_uR (px_uR M 47 st) 107 st') (J) (R) (43) (38) nL xs (D))) := by
    intro h1 h2
    refine ⟨-4611686018427387904, M 47, M 107, ?_, ?_⟩
    · rw [px_uR_id]; exact h1
    · rw [px_uR_id, px_uR_id]; exact h2
  have badF : (v < 0 ∨ nI n ≤ v) → ∃ w st st', px_ex px_tab (d + 5) 147 [Value.ref (13), Value.int (v), Value.int (y), Value.int (u)] (hp (M) (J) (R) (43) (38) nL xs (D)) = some (some (Value.long (w)), (hp (px_uR M 47 st) (J) (R) (43) (38) nL xs (D))) ∧ px_ex px_tab (d + 5) 231 [Value.ref (67), Value.int (v), Value.int (y), Value.int (u)] (hp (px_uR M 47 st) (J) (R) (43) (38) nL xs (D)) = some (some (Value.long (w)), (hp (px_uR (px_uR M 47 st) 107 st') (J) (R) (43) (38) nL xs (D))) := by
    intro h
    refine bad ?_ ?_
    · rw [xX11_worth]
      simp only [px_bd_s, px_psh_s, px_psh_n, px_vb_s, px_ib_s, px_wb_s, px_bo_s, px_bo_n, Bool.cond_decide, cond_true, cond_false, ite_not, Bool.and_true, if_true, if_false, not_true_eq_false, not_false_eq_true, i10, eq_self, decide_true, decide_false, Bool.or_true, Bool.true_or, Bool.or_false, Bool.false_or, eX11_worth_43_0, eX11_worth_43_0_4_b, eX11_worth_43_40, c_findAt_n _ _ _ _ _ _ _ _ _ hF.2.1 v h]
    · rw [xX12_worth]
      simp only [px_bd_s, px_psh_s, px_psh_n, px_vb_s, px_ib_s, px_wb_s, px_bo_s, px_bo_n, Bool.cond_decide, cond_true, cond_false, ite_not, Bool.and_true, if_true, if_false, not_true_eq_false, not_false_eq_true, i10, eq_self, decide_true, decide_false, Bool.or_true, Bool.true_or, Bool.or_false, Bool.false_or, eX12_worth_0, eX12_worth_0_3, eX12_worth_40, eX12_worth_43, m_isFind (d + 2) _ _ _ _ _ _ _ _, hF.2.2.1, in_n (show n < 2 ^ 31 by omega) h]
  rcases pk_ix v (n := n) (by omega) with h | h | ⟨i, hi, rfl⟩
  · exact badF (Or.inl h)
  · exact badF (Or.inr h)
  clear badF
  obtain ⟨a1, a2, a3, a4⟩ := hF.2.2.2.2.1 i hi
  have cf := c_findAt_y (d + 3) M J R 43 38 nL xs D hn hF.2.1 i hi a1
  have mf := (m_isFind (d + 2) M J R 43 38 nL xs D (nI i)).trans (by rw [hF.2.2.1, in_y hi (by omega)])
  by_cases hy : 0 ≤ y ∧ y ≤ 999
  · rcases pk_ix u (n := nb) (by omega) with h | h | ⟨b, hb, rfl⟩
    · refine bad ?_ ?_
      · rw [xX11_worth]
        simp only [px_bd_s, px_psh_s, px_psh_n, px_vb_s, px_ib_s, px_wb_s, px_bo_s, px_bo_n, Bool.cond_decide, cond_true, cond_false, ite_not, Bool.and_true, if_true, if_false, not_true_eq_false, not_false_eq_true, i10, eq_self, decide_true, decide_false, Bool.or_true, Bool.true_or, Bool.or_false, Bool.false_or, eX11_worth_43_0, eX11_worth_43_0_4, eX11_worth_43_0_9, eX11_worth_43_40, cf, c_isDay, px_in_1 hy, if_pos h]
      · rw [xX12_worth]
        simp only [px_bd_s, px_psh_s, px_psh_n, px_vb_s, px_ib_s, px_wb_s, px_bo_s, px_bo_n, Bool.cond_decide, cond_true, cond_false, ite_not, Bool.and_true, if_true, if_false, not_true_eq_false, not_false_eq_true, i10, eq_self, decide_true, decide_false, Bool.or_true, Bool.true_or, Bool.or_false, Bool.false_or, eX12_worth_0, eX12_worth_0_3, eX12_worth_40, eX12_worth_0_6, eX12_worth_43, eX12_worth_0_14, mf, m_isDay, px_in_1 hy, c_in, hI.2.2.1, in_n (show nb < 2 ^ 31 by omega) (Or.inl h)]
    · refine bad ?_ ?_
      · rw [xX11_worth]
        by_cases h0 : u < 0
        · simp only [px_bd_s, px_psh_s, px_psh_n, px_vb_s, px_ib_s, px_wb_s, px_bo_s, px_bo_n, Bool.cond_decide, cond_true, cond_false, ite_not, Bool.and_true, if_true, if_false, not_true_eq_false, not_false_eq_true, i10, eq_self, decide_true, decide_false, Bool.or_true, Bool.true_or, Bool.or_false, Bool.false_or, eX11_worth_43_0, eX11_worth_43_0_4, eX11_worth_43_0_9, eX11_worth_43_40, cf, c_isDay, px_in_1 hy, if_pos h0]
        · simp only [px_bd_s, px_psh_s, px_psh_n, px_vb_s, px_ib_s, px_wb_s, px_bo_s, px_bo_n, Bool.cond_decide, cond_true, cond_false, ite_not, Bool.and_true, if_true, if_false, not_true_eq_false, not_false_eq_true, i10, eq_self, decide_true, decide_false, Bool.or_true, Bool.true_or, Bool.or_false, Bool.false_or, eX11_worth_43_0, eX11_worth_43_0_4, eX11_worth_43_0_9, eX11_worth_43_40, cf, c_isDay, px_in_1 hy, if_neg h0, hI.2.1, if_neg (Int32.not_lt.mpr h)]
      · rw [xX12_worth]
        simp only [px_bd_s, px_psh_s, px_psh_n, px_vb_s, px_ib_s, px_wb_s, px_bo_s, px_bo_n, Bool.cond_decide, cond_true, cond_false, ite_not, Bool.and_true, if_true, if_false, not_true_eq_false, not_false_eq_true, i10, eq_self, decide_true, decide_false, Bool.or_true, Bool.true_or, Bool.or_false, Bool.false_or, eX12_worth_0, eX12_worth_0_3, eX12_worth_40, eX12_worth_0_6, eX12_worth_43, eX12_worth_0_14, mf, m_isDay, px_in_1 hy, c_in, hI.2.2.1, in_n (show nb < 2 ^ 31 by omega) (Or.inr h)]
    · obtain ⟨st, hst⟩ := c_valueOf_43 (d + 1) J R 43 38 nL xs D M hI a2 hb y
      obtain ⟨st', hst'⟩ := m_worked (d + 2) J R 43 38 nL xs D (cb := M 43 0) (en := M 44) (sp := M 45) (opd := M 46) (px_uR M 47 st) hI (show i < 20 by omega) hb y
      refine ⟨Int32.toInt64 (vbr (cdf (M 96)) (M 97) (nmv (M 77 i) (M 80 i) (M 79 i) (M 78 i) y) pt b), st, st', ?_, ?_⟩
      · rw [xX11_worth]
        simp (disch := omega) only [px_bd_s, px_psh_s, px_psh_n, px_vb_s, px_ib_s, px_wb_s, px_bo_s, px_bo_n, Bool.cond_decide, cond_true, cond_false, ite_not, Bool.and_true, if_true, if_false, not_true_eq_false, not_false_eq_true, i10, eq_self, decide_true, decide_false, Bool.or_true, Bool.true_or, Bool.or_false, Bool.false_or, eX11_worth_43_0, eX11_worth_43_0_4, eX11_worth_43_0_9, eX11_worth_43_44, eX11_worth_43_44_7, cf, c_isDay, px_in_1 hy, if_neg (nI_pos (show b < 2 ^ 31 by omega)), hI.2.1, nI_ltI, if_pos hb, hst]
        rfl
      · have mf' := m_isFind (d + 2) (px_uR M 47 st) J R 43 38 nL xs D (nI i)
        rw [show px_uR M 47 st 67 13 = M 67 13 from rfl, hF.2.2.1, in_y hi (by omega)] at mf'
        have e38 : px_uR M 47 st 67 38 = nI nb := hI.2.2.1
        rw [xX12_worth]
        simp only [px_bd_s, px_psh_s, px_psh_n, px_vb_s, px_ib_s, px_wb_s, px_bo_s, px_bo_n, Bool.cond_decide, cond_true, cond_false, ite_not, Bool.and_true, if_true, if_false, not_true_eq_false, not_false_eq_true, i10, eq_self, decide_true, decide_false, Bool.or_true, Bool.true_or, Bool.or_false, Bool.false_or, eX12_worth_0, eX12_worth_0_3, eX12_worth_0_6, eX12_worth_43, eX12_worth_0_14, eX12_worth_0_20, mf', m_isDay, px_in_1 hy, c_in, e38, in_y hb (show nb < 2 ^ 31 by omega), hst']
        rfl
  · refine bad ?_ ?_
    · rw [xX11_worth]
      simp only [px_bd_s, px_psh_s, px_psh_n, px_vb_s, px_ib_s, px_wb_s, px_bo_s, px_bo_n, Bool.cond_decide, cond_true, cond_false, ite_not, Bool.and_true, if_true, if_false, not_true_eq_false, not_false_eq_true, i10, eq_self, decide_true, decide_false, Bool.or_true, Bool.true_or, Bool.or_false, Bool.false_or, eX11_worth_43_0, eX11_worth_43_0_4, eX11_worth_43_0_9, eX11_worth_43_40, cf, c_isDay, px_in_00 hy]
    · rw [xX12_worth]
      simp only [px_bd_s, px_psh_s, px_psh_n, px_vb_s, px_ib_s, px_wb_s, px_bo_s, px_bo_n, Bool.cond_decide, cond_true, cond_false, ite_not, Bool.and_true, if_true, if_false, not_true_eq_false, not_false_eq_true, i10, eq_self, decide_true, decide_false, Bool.or_true, Bool.true_or, Bool.or_false, Bool.false_or, eX12_worth_0, eX12_worth_0_3, eX12_worth_40, eX12_worth_0_6, eX12_worth_43, mf, m_isDay, px_in_00 hy]
end S43
