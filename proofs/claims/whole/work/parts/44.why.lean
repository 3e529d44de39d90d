/-! PART 44: WHY, LIFT, WORTH: the ties -/
section S44
variable (d : Nat) (M : Nat → Nat → Int32) (J : Nat → Nat → Int64) (R : Nat → Nat → Option Nat) (c e nL : Nat) (xs : Nat → Int32) (D : px_H)
theorem t_worth (hF : IFd M R D) (hR : IRl M c e) (v y u : Int32) : ∃ w M1 M2, px_ex px_tab (d + 5) 147 [Value.ref (13), Value.int (v), Value.int (y), Value.int (u)] (hp (M) (J) (R) (c) (e) nL xs (D)) = some (some (Value.long (w)), (hp (M1) (J) (R) (c) (e) nL xs (D))) ∧ px_ex px_tab (d + 5) 231 [Value.ref (67), Value.int (v), Value.int (y), Value.int (u)] (hp (M1) (J) (R) (c) (e) nL xs (D)) = some (some (Value.long (w)), (hp (M2) (J) (R) (c) (e) nL xs (D))) ∧ frm [42, 47, 107] [] M M2 := by
  obtain ⟨n, P, H, hF⟩ := hF
  rcases hR with ⟨rfl, rfl, nb, pt, hI⟩ | ⟨rfl, rfl, nb, pt, hI⟩
  · obtain ⟨w, st, st', h1, h2⟩ := t_worth_38 d M J R nL xs D hF hI v y u
    exact ⟨w, _, _, h1, h2, ((frm.rf _ _ _).u 42 _ (by decide) (by decide)).u 107 _ (by decide) (by decide)⟩
  · obtain ⟨w, st, st', h1, h2⟩ := t_worth_43 d M J R nL xs D hF hI v y u
    exact ⟨w, _, _, h1, h2, ((frm.rf _ _ _).u 47 _ (by decide) (by decide)).u 107 _ (by decide) (by decide)⟩
theorem t_why (hF : IFd M R D) (hT : ITk M) (hR : IRl M c e) (v t y : Int32) : ∃ w M1 M2, px_ex px_tab (d + 6) 135 [Value.ref (13), Value.int (v), Value.int (t), Value.int (y)] (hp (M) (J) (R) (c) (e) nL xs (D)) = some (some (Value.int (w)), (hp (M1) (J) (R) (c) (e) nL xs (D))) ∧ px_ex px_tab (d + 6) 192 [Value.ref (67), Value.int (v), Value.int (t), Value.int (y)] (hp (M1) (J) (R) (c) (e) nL xs (D)) = some (some (Value.int (w)), (hp (M2) (J) (R) (c) (e) nL xs (D))) ∧ frm [42, 47, 107] [] M M2 := by
  obtain ⟨n, P, H, hF⟩ := hF
  obtain ⟨tn, ht, h28, h67, hrow⟩ := hT
  rcases hR with ⟨rfl, rfl, nb, pt, hI⟩ | ⟨rfl, rfl, nb, pt, hI⟩
  · obtain ⟨w, st, h1, h2, _⟩ := core_38 d M J R nL xs D hF ht h28 h67 hrow hI v t y
    obtain ⟨st', h2⟩ := h2 (d + 1) D
    refine ⟨w, px_uR M 42 st, _, ?_, h2, ((frm.rf _ _ _).u 42 _ (by decide) (by decide)).u 107 _ (by decide) (by decide)⟩
    rw [xX11_why]
    simp only [px_bd_s, px_psh_s, px_psh_n, px_vb_s, px_ib_s, px_wb_s, px_bo_s, px_bo_n, Bool.cond_decide, cond_true, cond_false, ite_not, Bool.and_true, if_true, if_false, not_true_eq_false, not_false_eq_true, i10, eq_self, decide_true, decide_false, Bool.or_true, Bool.true_or, Bool.or_false, Bool.false_or, eX11_why_0, eX11_why_0_5, h1]
  · obtain ⟨w, st, h1, h2, _⟩ := core_43 d M J R nL xs D hF ht h28 h67 hrow hI v t y
    obtain ⟨st', h2⟩ := h2 (d + 1) D
    refine ⟨w, px_uR M 47 st, _, ?_, h2, ((frm.rf _ _ _).u 47 _ (by decide) (by decide)).u 107 _ (by decide) (by decide)⟩
    rw [xX11_why]
    simp only [px_bd_s, px_psh_s, px_psh_n, px_vb_s, px_ib_s, px_wb_s, px_bo_s, px_bo_n, Bool.cond_decide, cond_true, cond_false, ite_not, Bool.and_true, if_true, if_false, not_true_eq_false, not_false_eq_true, i10, eq_self, decide_true, decide_false, Bool.or_true, Bool.true_or, Bool.or_false, Bool.false_or, eX11_why_0, eX11_why_0_5, h1]
end S44
section S44b
variable (d : Nat) (M : Nat → Nat → Int32) (J : Nat → Nat → Int64) (R : Nat → Nat → Option Nat) (nL : Nat) (xs : Nat → Int32) (D : px_H)
theorem t_lift_38 (hF : IFd M R D) (hT : ITk M) (hR : ∃ nb pt, IRc nb pt (M 38 0) (M 67 38) (M 39) (M 40) (M 41) (M 96) (M 97) (M 98)) (v t y : Int32) : ∃ w M1 D1 M2, px_ex px_tab (d + 6) 134 [Value.ref (13), Value.int (v), Value.int (t), Value.int (y)] (hp (M) (J) (R) (38) (43) nL xs (D)) = some (some (Value.int (w)), (hp (M1) (J) (R) (38) (43) nL xs (D1))) ∧ px_ex px_tab (d + 6) 193 [Value.ref (67), Value.int (v), Value.int (t), Value.int (y)] (hp (M1) (J) (R) (38) (43) nL xs (D1)) = some (some (Value.int (w)), (hp (M2) (J) (R) (38) (43) nL xs (D1))) ∧ IFd M2 R D1 ∧ frm [42, 47, 107, 83, 84] [] M M2 ∧ (∀ q V, dvAt D q V → dvAt D1 q V) ∧ grow D D1 := by
  obtain ⟨nb, pt, hI⟩ := hR
  obtain ⟨n, P, H, hF⟩ := hF
  obtain ⟨tn, ht, h28, h67, hrow⟩ := hT
  have hn := hF.1
  obtain ⟨w, st, h1, h2, hw⟩ := core_38 d M J R nL xs D hF ht h28 h67 hrow hI v t y
  have keep : ∀ (r : Int32) (st' : Nat → Int32), px_ex px_tab (d + 6) 134 [Value.ref (13), Value.int (v), Value.int (t), Value.int (y)] (hp (M) (J) (R) (38) (43) nL xs (D)) = some (some (Value.int (r)), (hp (px_uR M 42 st) (J) (R) (38) (43) nL xs (D))) → px_ex px_tab (d + 6) 193 [Value.ref (67), Value.int (v), Value.int (t), Value.int (y)] (hp (px_uR M 42 st) (J) (R) (38) (43) nL xs (D)) = some (some (Value.int (r)), (hp (px_uR (px_uR M 42 st) 107 st') (J) (R) (38) (43) nL xs (D))) → ∃ w M1 D1 M2, px_ex px_tab (d + 6) 134 [Value.ref (13), Value.int (v), Value.int (t), Value.int (y)] (hp (M) (J) (R) (38) (43) nL xs (D)) = some (some (Value.int (w)), (hp (M1) (J) (R) (38) (43) nL xs (D1))) ∧ px_ex px_tab (d + 6) 193 [Value.ref (67), Value.int (v), Value.int (t), Value.int (y)] (hp (M1) (J) (R) (38) (43) nL xs (D1)) = some (some (Value.int (w)), (hp (M2) (J) (R) (38) (43) nL xs (D1))) ∧ IFd M2 R D1 ∧ frm [42, 47, 107, 83, 84] [] M M2 ∧ (∀ q V, dvAt D q V → dvAt D1 q V) ∧ grow D D1 := by
    intro r st' g1 g2
    exact ⟨r, _, D, _, g1, g2, ⟨n, P, H, hF⟩, ((frm.rf _ _ _).u 42 _ (by decide) (by decide)).u 107 _ (by decide) (by decide), fun _ _ h => h, grow.rf _⟩
  rcases hw with rfl | ⟨i, j, ww, hi, rfl, hj, rfl, rfl, hww, h83⟩
  · obtain ⟨st', h2⟩ := h2 d D
    refine keep (-2) st' ?_ ?_
    · rw [xX11_lift]
      simp only [px_bd_s, px_psh_s, px_psh_n, px_vb_s, px_ib_s, px_wb_s, px_bo_s, px_bo_n, Bool.cond_decide, cond_true, cond_false, ite_not, Bool.and_true, if_true, if_false, not_true_eq_false, not_false_eq_true, i10, eq_self, decide_true, decide_false, Bool.or_true, Bool.true_or, Bool.or_false, Bool.false_or, eX11_lift_0, eX11_lift_0_5, h1, if_neg (show ¬ (0 : Int32) ≤ -2 by decide)]
    · rw [xX12_lift]
      simp only [px_bd_s, px_psh_s, px_psh_n, px_vb_s, px_ib_s, px_wb_s, px_bo_s, px_bo_n, Bool.cond_decide, cond_true, cond_false, ite_not, Bool.and_true, if_true, if_false, not_true_eq_false, not_false_eq_true, i10, eq_self, decide_true, decide_false, Bool.or_true, Bool.true_or, Bool.or_false, Bool.false_or, eX12_lift_0, eX12_lift_0_5, h2]
  · by_cases h0 : ww = 0
    · subst h0
      have h83 := h83 rfl
      obtain ⟨a1, a2, a3, a4⟩ := hF.2.2.2.2.1 i hi
      obtain ⟨st', h2⟩ := h2 d (D.set (P i) (fdc (P i) (upd (upd (upd (fdF (M 77) (M 78) (M 79) (M 80) (M 81) (M 83) (M 84) i) 6 0) 7 (nI j)) 8 y)))
      have f2 := fd_fr a2 (upd (upd (upd (fdF (M 77) (M 78) (M 79) (M 80) (M 81) (M 83) (M 84) i) 6 0) 7 (nI j)) 8 y)
      have b2 := fdAt_set a2 (upd (upd (upd (fdF (M 77) (M 78) (M 79) (M 80) (M 81) (M 83) (M 84) i) 6 0) 7 (nI j)) 8 y)
      refine ⟨1, px_uR M 42 st, D.set (P i) (fdc (P i) (upd (upd (upd (fdF (M 77) (M 78) (M 79) (M 80) (M 81) (M 83) (M 84) i) 6 0) 7 (nI j)) 8 y)), px_uR (px_uR (px_uR (px_uR M 42 st) 107 st') 83 (upd (M 83) i (nI j))) 84 (upd (M 84) i y), ?_, ?_, ?_, ?_, f2.2.1, f2.2.2.g⟩
      · rw [xX11_lift]
        simp only [px_bd_s, px_psh_s, px_psh_n, px_vb_s, px_ib_s, px_wb_s, px_bo_s, px_bo_n, Bool.cond_decide, cond_true, cond_false, ite_not, Bool.and_true, if_true, if_false, not_true_eq_false, not_false_eq_true, i10, eq_self, decide_true, decide_false, Bool.or_true, Bool.true_or, Bool.or_false, Bool.false_or, eX11_lift_0, eX11_lift_0_5, eX11_lift_17, eX11_lift_28, eX11_lift_28_4, eX11_lift_28_4_b, eX11_lift_28_11, eX11_lift_28_10, eX11_lift_50, h1, nI_0, show (0 : Int32) ≤ 0 from Int32.le_refl _, c_findAt_y (d + 4) (px_uR M 42 st) J R 38 43 nL xs D hn hF.2.1 i hi a1, fd_isc a2, c_goInto (d + 4) _ _ _ _ _ _ _ _ a2]
      · rw [xX12_lift]
        simp (disch := omega) only [px_bd_s, px_psh_s, px_psh_n, px_vb_s, px_ib_s, px_wb_s, px_bo_s, px_bo_n, Bool.cond_decide, cond_true, cond_false, ite_not, Bool.and_true, if_true, if_false, not_true_eq_false, not_false_eq_true, i10, eq_self, decide_true, decide_false, Bool.or_true, Bool.true_or, Bool.or_false, Bool.false_or, eX12_lift_0, eX12_lift_0_5, eX12_lift_19, eX12_lift_30, h2, nI_0, show ¬ (0 : Int32) = -2 from by decide, px_inbT, nI_clamp]
        rfl
      · refine ⟨n, P, _, IFn_upd hF hi (Hi := H i) ?_ ?_ ?_ ?_ ?_ ?_⟩
        · exact fun z hz => ⟨rfl, pk_un hz, pk_un hz⟩
        · exact fun _ _ _ _ => rfl
        · show fdAt _ _ (fdF (M 77) (M 78) (M 79) (M 80) (M 81) (upd (M 83) i (nI j)) (upd (M 84) i y) i) _
          rw [← fdF_in _ _ _ _ _ _ _ _ (show j < 2 ^ 31 by omega)]
          exact b2
        · exact f2.1
        · exact ⟨a3.1, a3.2.1, a3.2.2.1, a3.2.2.2.1, a3.2.2.2.2.1, Or.inr (Or.inr ⟨j, by omega, pk_us⟩)⟩
        · exact a4
      · exact ((((frm.rf _ _ _).u 42 _ (by decide) (by decide)).u 107 _ (by decide) (by decide)).u 83 _ (by decide) (by decide)).u 84 _ (by decide) (by decide)
    · obtain ⟨st', h2⟩ := h2 d D
      refine keep (-20 - nI ww) st' ?_ ?_
      · rw [xX11_lift]
        simp only [px_bd_s, px_psh_s, px_psh_n, px_vb_s, px_ib_s, px_wb_s, px_bo_s, px_bo_n, Bool.cond_decide, cond_true, cond_false, ite_not, Bool.and_true, if_true, if_false, not_true_eq_false, not_false_eq_true, i10, eq_self, decide_true, decide_false, Bool.or_true, Bool.true_or, Bool.or_false, Bool.false_or, eX11_lift_0, eX11_lift_0_5, eX11_lift_17, h1, if_pos (nI_pos' hww), if_neg (nI_nle (show 0 < ww by omega) hww)]
      · rw [xX12_lift]
        have hne : ¬ nI ww = -2 := fun q => nI_neg hww (k := 2) (by decide) (by decide) (by rw [q]; decide)
        simp only [px_bd_s, px_psh_s, px_psh_n, px_vb_s, px_ib_s, px_wb_s, px_bo_s, px_bo_n, Bool.cond_decide, cond_true, cond_false, ite_not, Bool.and_true, if_true, if_false, not_true_eq_false, not_false_eq_true, i10, eq_self, decide_true, decide_false, Bool.or_true, Bool.true_or, Bool.or_false, Bool.false_or, eX12_lift_0, eX12_lift_0_5, eX12_lift_19, h2, if_neg hne, hne, if_neg (nI_ne0 (show 0 < ww by omega) hww)]
theorem t_lift_43 (hF : IFd M R D) (hT : ITk M) (hR : ∃ nb pt, IRc nb pt (M 43 0) (M 67 38) (M 44) (M 45) (M 46) (M 96) (M 97) (M 98)) (v t y : Int32) : ∃ w M1 D1 M2, px_ex px_tab (d + 6) 134 [Value.ref (13), Value.int (v), Value.int (t), Value.int (y)] (hp (M) (J) (R) (43) (38) nL xs (D)) = some (some (Value.int (w)), (hp (M1) (J) (R) (43) (38) nL xs (D1))) ∧ px_ex px_tab (d + 6) 193 [Value.ref (67), Value.int (v), Value.int (t), Value.int (y)] (hp (M1) (J) (R) (43) (38) nL xs (D1)) = some (some (Value.int (w)), (hp (M2) (J) (R) (43) (38) nL xs (D1))) ∧ IFd M2 R D1 ∧ frm [42, 47, 107, 83, 84] [] M M2 ∧ (∀ q V, dvAt D q V → dvAt D1 q V) ∧ grow D D1 := by
  obtain ⟨nb, pt, hI⟩ := hR
  obtain ⟨n, P, H, hF⟩ := hF
  obtain ⟨tn, ht, h28, h67, hrow⟩ := hT
  have hn := hF.1
  obtain ⟨w, st, h1, h2, hw⟩ := core_43 d M J R nL xs D hF ht h28 h67 hrow hI v t y
  have keep : ∀ (r : Int32) (st' : Nat → Int32), px_ex px_tab (d + 6) 134 [Value.ref (13), Value.int (v), Value.int (t), Value.int (y)] (hp (M) (J) (R) (43) (38) nL xs (D)) = some (some (Value.int (r)), (hp (px_uR M 47 st) (J) (R) (43) (38) nL xs (D))) → px_ex px_tab (d + 6) 193 [Value.ref (67), Value.int (v), Value.int (t), Value.int (y)] (hp (px_uR M 47 st) (J) (R) (43) (38) nL xs (D)) = some (some (Value.int (r)), (hp (px_uR (px_uR M 47 st) 107 st') (J) (R) (43) (38) nL xs (D))) → ∃ w M1 D1 M2, px_ex px_tab (d + 6) 134 [Value.ref (13), Value.int (v), Value.int (t), Value.int (y)] (hp (M) (J) (R) (43) (38) nL xs (D)) = some (some (Value.int (w)), (hp (M1) (J) (R) (43) (38) nL xs (D1))) ∧ px_ex px_tab (d + 6) 193 [Value.ref (67), Value.int (v), Value.int (t), Value.int (y)] (hp (M1) (J) (R) (43) (38) nL xs (D1)) = some (some (Value.int (w)), (hp (M2) (J) (R) (43) (38) nL xs (D1))) ∧ IFd M2 R D1 ∧ frm [42, 47, 107, 83, 84] [] M M2 ∧ (∀ q V, dvAt D q V → dvAt D1 q V) ∧ grow D D1 := by
    intro r st' g1 g2
    exact ⟨r, _, D, _, g1, g2, ⟨n, P, H, hF⟩, ((frm.rf _ _ _).u 47 _ (by decide) (by decide)).u 107 _ (by decide) (by decide), fun _ _ h => h, grow.rf _⟩
  rcases hw with rfl | ⟨i, j, ww, hi, rfl, hj, rfl, rfl, hww, h83⟩
  · obtain ⟨st', h2⟩ := h2 d D
    refine keep (-2) st' ?_ ?_
    · rw [xX11_lift]
      simp only [px_bd_s, px_psh_s, px_psh_n, px_vb_s, px_ib_s, px_wb_s, px_bo_s, px_bo_n, Bool.cond_decide, cond_true, cond_false, ite_not, Bool.and_true, if_true, if_false, not_true_eq_false, not_false_eq_true, i10, eq_self, decide_true, decide_false, Bool.or_true, Bool.true_or, Bool.or_false, Bool.false_or, eX11_lift_0, eX11_lift_0_5, h1, if_neg (show ¬ (0 : Int32) ≤ -2 by decide)]
    · rw [xX12_lift]
      simp only [px_bd_s, px_psh_s, px_psh_n, px_vb_s, px_ib_s, px_wb_s, px_bo_s, px_bo_n, Bool.cond_decide, cond_true, cond_false, ite_not, Bool.and_true, if_true, if_false, not_true_eq_false, not_false_eq_true, i10, eq_self, decide_true, decide_false, Bool.or_true, Bool.true_or, Bool.or_false, Bool.false_or, eX12_lift_0, eX12_lift_0_5, h2]
  · by_cases h0 : ww = 0
    · subst h0
      have h83 := h83 rfl
      obtain ⟨a1, a2, a3, a4⟩ := hF.2.2.2.2.1 i hi
      obtain ⟨st', h2⟩ := h2 d (D.set (P i) (fdc (P i) (upd (upd (upd (fdF (M 77) (M 78) (M 79) (M 80) (M 81) (M 83) (M 84) i) 6 0) 7 (nI j)) 8 y)))
      have f2 := fd_fr a2 (upd (upd (upd (fdF (M 77) (M 78) (M 79) (M 80) (M 81) (M 83) (M 84) i) 6 0) 7 (nI j)) 8 y)
      have b2 := fdAt_set a2 (upd (upd (upd (fdF (M 77) (M 78) (M 79) (M 80) (M 81) (M 83) (M 84) i) 6 0) 7 (nI j)) 8 y)
      refine ⟨1, px_uR M 47 st, D.set (P i) (fdc (P i) (upd (upd (upd (fdF (M 77) (M 78) (M 79) (M 80) (M 81) (M 83) (M 84) i) 6 0) 7 (nI j)) 8 y)), px_uR (px_uR (px_uR (px_uR M 47 st) 107 st') 83 (upd (M 83) i (nI j))) 84 (upd (M 84) i y), ?_, ?_, ?_, ?_, f2.2.1, f2.2.2.g⟩
      · rw [xX11_lift]
        simp only [px_bd_s, px_psh_s, px_psh_n, px_vb_s, px_ib_s, px_wb_s, px_bo_s, px_bo_n, Bool.cond_decide, cond_true, cond_false, ite_not, Bool.and_true, if_true, if_false, not_true_eq_false, not_false_eq_true, i10, eq_self, decide_true, decide_false, Bool.or_true, Bool.true_or, Bool.or_false, Bool.false_or, eX11_lift_0, eX11_lift_0_5, eX11_lift_17, eX11_lift_28, eX11_lift_28_4, eX11_lift_28_4_b, eX11_lift_28_11, eX11_lift_28_10, eX11_lift_50, h1, nI_0, show (0 : Int32) ≤ 0 from Int32.le_refl _, c_findAt_y (d + 4) (px_uR M 47 st) J R 43 38 nL xs D hn hF.2.1 i hi a1, fd_isc a2, c_goInto (d + 4) _ _ _ _ _ _ _ _ a2]
      · rw [xX12_lift]
        simp (disch := omega) only [px_bd_s, px_psh_s, px_psh_n, px_vb_s, px_ib_s, px_wb_s, px_bo_s, px_bo_n, Bool.cond_decide, cond_true, cond_false, ite_not, Bool.and_true, if_true, if_false, not_true_eq_false, not_false_eq_true, i10, eq_self, decide_true, decide_false, Bool.or_true, Bool.true_or, Bool.or_false, Bool.false_or, eX12_lift_0, eX12_lift_0_5, eX12_lift_19, eX12_lift_30, h2, nI_0, show ¬ (0 : Int32) = -2 from by decide, px_inbT, nI_clamp]
        rfl
      · refine ⟨n, P, _, IFn_upd hF hi (Hi := H i) ?_ ?_ ?_ ?_ ?_ ?_⟩
        · exact fun z hz => ⟨rfl, pk_un hz, pk_un hz⟩
        · exact fun _ _ _ _ => rfl
        · show fdAt _ _ (fdF (M 77) (M 78) (M 79) (M 80) (M 81) (upd (M 83) i (nI j)) (upd (M 84) i y) i) _
          rw [← fdF_in _ _ _ _ _ _ _ _ (show j < 2 ^ 31 by omega)]
          exact b2
        · exact f2.1
        · exact ⟨a3.1, a3.2.1, a3.2.2.1, a3.2.2.2.1, a3.2.2.2.2.1, Or.inr (Or.inr ⟨j, by omega, pk_us⟩)⟩
        · exact a4
      · exact ((((frm.rf _ _ _).u 47 _ (by decide) (by decide)).u 107 _ (by decide) (by decide)).u 83 _ (by decide) (by decide)).u 84 _ (by decide) (by decide)
    · obtain ⟨st', h2⟩ := h2 d D
      refine keep (-20 - nI ww) st' ?_ ?_
      · rw [xX11_lift]
        simp only [px_bd_s, px_psh_s, px_psh_n, px_vb_s, px_ib_s, px_wb_s, px_bo_s, px_bo_n, Bool.cond_decide, cond_true, cond_false, ite_not, Bool.and_true, if_true, if_false, not_true_eq_false, not_false_eq_true, i10, eq_self, decide_true, decide_false, Bool.or_true, Bool.true_or, Bool.or_false, Bool.false_or, eX11_lift_0, eX11_lift_0_5, eX11_lift_17, h1, if_pos (nI_pos' hww), if_neg (nI_nle (show 0 < ww by omega) hww)]
      · rw [xX12_lift]
        have hne : ¬ nI ww = -2 := fun q => nI_neg hww (k := 2) (by decide) (by decide) (by rw [q]; decide)
        simp only [px_bd_s, px_psh_s, px_psh_n, px_vb_s, px_ib_s, px_wb_s, px_bo_s, px_bo_n, Bool.cond_decide, cond_true, cond_false, ite_not, Bool.and_true, if_true, if_false, not_true_eq_false, not_false_eq_true, i10, eq_self, decide_true, decide_false, Bool.or_true, Bool.true_or, Bool.or_false, Bool.false_or, eX12_lift_0, eX12_lift_0_5, eX12_lift_19, h2, if_neg hne, hne, if_neg (nI_ne0 (show 0 < ww by omega) hww)]
end S44b
section S44c
variable (d : Nat) (M : Nat → Nat → Int32) (J : Nat → Nat → Int64) (R : Nat → Nat → Option Nat) (c e nL : Nat) (xs : Nat → Int32) (D : px_H)
theorem t_lift (hF : IFd M R D) (hT : ITk M) (hR : IRl M c e) (v t y : Int32) : ∃ w M1 D1 M2, px_ex px_tab (d + 6) 134 [Value.ref (13), Value.int (v), Value.int (t), Value.int (y)] (hp (M) (J) (R) (c) (e) nL xs (D)) = some (some (Value.int (w)), (hp (M1) (J) (R) (c) (e) nL xs (D1))) ∧ px_ex px_tab (d + 6) 193 [Value.ref (67), Value.int (v), Value.int (t), Value.int (y)] (hp (M1) (J) (R) (c) (e) nL xs (D1)) = some (some (Value.int (w)), (hp (M2) (J) (R) (c) (e) nL xs (D1))) ∧ IFd M2 R D1 ∧ frm [42, 47, 107, 83, 84] [] M M2 ∧ (∀ q V, dvAt D q V → dvAt D1 q V) ∧ grow D D1 := by
  rcases hR with ⟨rfl, rfl, hI⟩ | ⟨rfl, rfl, hI⟩
  · exact t_lift_38 d M J R nL xs D hF hT hI v t y
  · exact t_lift_43 d M J R nL xs D hF hT hI v t y
end S44c
