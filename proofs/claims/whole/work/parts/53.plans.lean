/-! PART 53: PLAN, PLANNED: the ties -/
section S53
variable (d : Nat) (M : Nat → Nat → Int32) (J : Nat → Nat → Int64) (R : Nat → Nat → Option Nat) (c e nL : Nat) (xs : Nat → Int32) (D : px_H)
/-- both make their plans -/
theorem t_plans (hI : IPl M J) (d2 : Nat) (hd2 : 11 ≤ d2) : ∃ n M1 J1 M2, n ≤ 9 ∧ M 51 0 = nI n ∧ M 67 42 = nI n ∧ px_ex px_tab (d + 3) 35 [Value.ref (51)] (hp (M) (J) (R) (c) (e) nL xs (D)) = some (none, (hp (M1) (J1) (R) (c) (e) nL xs (D))) ∧ px_ex px_tab (d2) 241 [Value.ref (67)] (hp (M1) (J1) (R) (c) (e) nL xs (D)) = some (none, (hp (M2) (J1) (R) (c) (e) nL xs (D))) ∧ IPl M2 J1 ∧ frm [51, 57, 108, 109, 110] [47, 65] M M2 ∧ M1 51 8 = M2 67 65 ∧ (∀ t, t < n → M1 57 t = M2 109 t) ∧ J1 55 = J 55 ∧ M1 67 = M 67 := by
  obtain ⟨n, ng, mn, wo, cap, hT, h510, h511, hS, h101, hpl⟩ := hI
  have hn := hT.1
  rcases hpl with ⟨h7, h47⟩ | ⟨h7, h47, h8, hrow⟩
  · obtain ⟨J', r, b, a1, a2, a3, a4⟩ := c_planNew d M J R c e nL xs D hT h510 h511 h7
    obtain ⟨M', bb, k1, k2, k3, k4, k5, k6, k7⟩ : ∃ M' bb, px_ex px_tab d2 241 [.ref 67] (hp (px_uR (px_uR (px_uR M 51 (upd (M 51) 8 (nI (wsm wo b n)))) 57 r) 51 (upd (upd (M 51) 8 (nI (wsm wo b n))) 7 1)) (px_uJ J 56 J') R c e nL xs D) = some (none, (hp (M') (px_uJ J 56 J') (R) (c) (e) nL xs (D))) ∧ frm [108, 109, 110] [47, 65] (px_uR (px_uR (px_uR M 51 (upd (M 51) 8 (nI (wsm wo b n)))) 57 r) 51 (upd (upd (M 51) 8 (nI (wsm wo b n))) 7 1)) M' ∧ M' 67 47 = 1 ∧ M' 67 65 = nI (wsm wo bb n) ∧ (∀ i, i < n → M' 109 i = dgI (bb i)) ∧ (∀ i, i < n → bb i ≤ 4) ∧ isV (fun t => (wo t : Int)) (fun t => (mn t : Int)) (fun t => (cap t : Int)) ng 0 (2 ^ n - 1) (mer (fun t => (wo t : Int)) bb (2 ^ n - 1)) := by
      have := m_planNew (d2 - n - 2) (px_uJ J 56 J') R c e nL xs D (px_uR (px_uR (px_uR M 51 (upd (M 51) 8 (nI (wsm wo b n)))) 57 r) 51 (upd (upd (M 51) 8 (nI (wsm wo b n))) 7 1)) hn hT.2.1 (fun t ht => (hT.2.2.1 t ht).2) (fun t ht => (hT.2.2.1 t ht).1) (fun g hg => (hT.2.2.2.1 g hg).2) hS h101 h47
      rw [show d2 - n - 2 + n + 2 = d2 from by omega] at this
      exact this
    have hu := mer_u hn a3 k6 (isV_u a4 k7)
    refine ⟨n, _, px_uJ J 56 J', M', hn, h510, hS.1, a1, k1, ?_, ?_, ?_, fun t ht => ?_, rfl, rfl⟩
    · have e1 : ∀ a, a ≠ 67 → a ∉ [108, 109, 110] → M' a = (px_uR (px_uR (px_uR M 51 (upd (M 51) 8 (nI (wsm wo b n)))) 57 r) 51 (upd (upd (M 51) 8 (nI (wsm wo b n))) 7 1)) a := k2.1
      have e2 : ∀ k, k ∉ [47, 65] → M' 67 k = M 67 k := k2.2
      refine ⟨n, ng, mn, wo, cap, ?_, ?_, ?_, ?_, ?_, Or.inr ⟨?_, k3, ?_, fun t ht => ?_⟩⟩
      · unfold tab
        rw [e1 52 (by decide) (by decide), e1 53 (by decide) (by decide), e1 54 (by decide) (by decide)]
        exact hT
      · rw [e1 51 (by decide) (by decide)]; exact h510
      · rw [e1 51 (by decide) (by decide)]; exact h511
      · unfold Stt
        rw [e2 42 (by decide), e2 45 (by decide), e1 99 (by decide) (by decide), e1 100 (by decide) (by decide)]
        exact hS
      · rw [e1 101 (by decide) (by decide)]; exact h101
      · rw [e1 51 (by decide) (by decide)]; rfl
      · rw [e1 51 (by decide) (by decide), k4]
        show nI (wsm wo b n) = _
        rw [hu.1]
      · rw [e1 57 (by decide) (by decide), k5 t ht]
        show r t = _
        rw [a2 t ht, hu.2 t ht]
    · refine frm.tr ?_ (k2.mono (fun a h => ?_) (fun a h => h))
      · exact (((frm.rf _ _ _).u 51 _ (by decide) (by decide)).u 57 _ (by decide) (by decide)).u 51 _ (by decide) (by decide)
      · have : a = 108 ∨ a = 109 ∨ a = 110 := by simpa using h
        rcases this with rfl | rfl | rfl <;> decide
    · rw [k4]
      show nI (wsm wo b n) = _
      rw [hu.1]
    · rw [k5 t ht]
      show r t = _
      rw [a2 t ht, hu.2 t ht]
  · refine ⟨n, M, J, M, hn, h510, hS.1, ?_, ?_, ⟨n, ng, mn, wo, cap, hT, h510, h511, hS, h101, Or.inr ⟨h7, h47, h8, hrow⟩⟩, frm.rf _ _ _, h8, hrow, rfl, rfl⟩
    · rw [xX3_planIfNew, eX3_planIfNew_0, h7]
      simp only [px_bd_s, px_psh_s, px_psh_n, px_vb_s, px_ib_s, px_wb_s, px_bo_s, px_bo_n, Bool.cond_decide, cond_true, cond_false, ite_not, Bool.and_true, if_true, if_false, not_true_eq_false, not_false_eq_true, i10, eq_self, decide_true, decide_false, Bool.or_true, Bool.true_or, Bool.or_false, Bool.false_or]
    · obtain ⟨d3, rfl⟩ : ∃ d3, d2 = d3 + 1 := ⟨d2 - 1, by omega⟩
      rw [xX12_plans, eX12_plans_0, h47]
      simp only [px_bd_s, px_psh_s, px_psh_n, px_vb_s, px_ib_s, px_wb_s, px_bo_s, px_bo_n, Bool.cond_decide, cond_true, cond_false, ite_not, Bool.and_true, if_true, if_false, not_true_eq_false, not_false_eq_true, i10, eq_self, decide_true, decide_false, Bool.or_true, Bool.true_or, Bool.or_false, Bool.false_or]
theorem t_plan (hI : IPl M J) : ∃ w M1 J1 M2, px_ex px_tab (d + 13) 153 [Value.ref (13)] (hp (M) (J) (R) (c) (e) nL xs (D)) = some (some (Value.int (w)), (hp (M1) (J1) (R) (c) (e) nL xs (D))) ∧ px_ex px_tab (d + 13) 242 [Value.ref (67)] (hp (M1) (J1) (R) (c) (e) nL xs (D)) = some (some (Value.int (w)), (hp (M2) (J1) (R) (c) (e) nL xs (D))) ∧ IPl M2 J1 ∧ frm [51, 57, 108, 109, 110] [47, 65] M M2 := by
  obtain ⟨n, M1, J1, M2, hn, h51, h67, a1, a2, a3, a4, a5, a6, a7, a8⟩ := t_plans (d + 8) M J R c e nL xs D hI (d + 12) (by omega)
  refine ⟨M1 51 8, M1, J1, M2, ?_, ?_, a3, a4⟩
  · rw [xX11_plan]
    simp only [px_bd_s, px_psh_s, px_psh_n, px_vb_s, px_ib_s, px_wb_s, px_bo_s, px_bo_n, Bool.cond_decide, cond_true, cond_false, ite_not, Bool.and_true, if_true, if_false, not_true_eq_false, not_false_eq_true, i10, eq_self, decide_true, decide_false, Bool.or_true, Bool.true_or, Bool.or_false, Bool.false_or, eX11_plan_0, eX11_plan_0_3, xX3_greatestWorth, eX3_greatestWorth_0, eX3_greatestWorth_0_2, a1]
  · rw [xX12_plan]
    simp only [px_bd_s, px_psh_s, px_psh_n, px_vb_s, px_ib_s, px_wb_s, px_bo_s, px_bo_n, Bool.cond_decide, cond_true, cond_false, ite_not, Bool.and_true, if_true, if_false, not_true_eq_false, not_false_eq_true, i10, eq_self, decide_true, decide_false, Bool.or_true, Bool.true_or, Bool.or_false, Bool.false_or, eX12_plan_0, eX12_plan_0_2, a2, a5]
theorem t_planned (hI : IPl M J) (v : Int32) : ∃ w M1 J1 M2, px_ex px_tab (d + 13) 154 [Value.ref (13), Value.int (v)] (hp (M) (J) (R) (c) (e) nL xs (D)) = some (some (Value.int (w)), (hp (M1) (J1) (R) (c) (e) nL xs (D))) ∧ px_ex px_tab (d + 13) 243 [Value.ref (67), Value.int (v)] (hp (M1) (J1) (R) (c) (e) nL xs (D)) = some (some (Value.int (w)), (hp (M2) (J1) (R) (c) (e) nL xs (D))) ∧ IPl M2 J1 ∧ frm [51, 57, 108, 109, 110] [47, 65] M M2 := by
  obtain ⟨n, M1, J1, M2, hn, h51, h67, a1, a2, a3, a4, a5, a6, a7, a8⟩ := t_plans (d + 8) M J R c e nL xs D hI (d + 12) (by omega)
  have bad : (v < 0 ∨ nI n ≤ v) → ∃ w M1 J1 M2, px_ex px_tab (d + 13) 154 [Value.ref (13), Value.int (v)] (hp (M) (J) (R) (c) (e) nL xs (D)) = some (some (Value.int (w)), (hp (M1) (J1) (R) (c) (e) nL xs (D))) ∧ px_ex px_tab (d + 13) 243 [Value.ref (67), Value.int (v)] (hp (M1) (J1) (R) (c) (e) nL xs (D)) = some (some (Value.int (w)), (hp (M2) (J1) (R) (c) (e) nL xs (D))) ∧ IPl M2 J1 ∧ frm [51, 57, 108, 109, 110] [47, 65] M M2 := by
    intro h
    refine ⟨-2, M, J, M, ?_, ?_, hI, frm.rf _ _ _⟩
    · rw [xX11_planned]
      by_cases h0 : v < 0
      · simp only [px_bd_s, px_psh_s, px_psh_n, px_vb_s, px_ib_s, px_wb_s, px_bo_s, px_bo_n, Bool.cond_decide, cond_true, cond_false, ite_not, Bool.and_true, if_true, if_false, not_true_eq_false, not_false_eq_true, i10, eq_self, decide_true, decide_false, Bool.or_true, Bool.true_or, Bool.or_false, Bool.false_or, eX11_planned_0, eX11_planned_0_4, xX3_gangOf, eX3_gangOf_0, eX3_gangOf_12, if_pos h0]
      · simp only [px_bd_s, px_psh_s, px_psh_n, px_vb_s, px_ib_s, px_wb_s, px_bo_s, px_bo_n, Bool.cond_decide, cond_true, cond_false, ite_not, Bool.and_true, if_true, if_false, not_true_eq_false, not_false_eq_true, i10, eq_self, decide_true, decide_false, Bool.or_true, Bool.true_or, Bool.or_false, Bool.false_or, eX11_planned_0, eX11_planned_0_4, xX3_gangOf, eX3_gangOf_0, eX3_gangOf_12, if_neg h0, h51, if_neg (Int32.not_lt.mpr (h.resolve_left h0))]
    · rw [xX12_planned]
      simp only [px_bd_s, px_psh_s, px_psh_n, px_vb_s, px_ib_s, px_wb_s, px_bo_s, px_bo_n, Bool.cond_decide, cond_true, cond_false, ite_not, Bool.and_true, if_true, if_false, not_true_eq_false, not_false_eq_true, i10, eq_self, decide_true, decide_false, Bool.or_true, Bool.true_or, Bool.or_false, Bool.false_or, eX12_planned_0, eX12_planned_0_7, c_in, h67, in_n (show n < 2 ^ 31 by omega) h]
  rcases pk_ix v (n := n) (by omega) with h | h | ⟨t, ht, rfl⟩
  · exact bad (Or.inl h)
  · exact bad (Or.inr h)
  refine ⟨M1 57 t, M1, J1, M2, ?_, ?_, a3, a4⟩
  · rw [xX11_planned]
    simp (disch := omega) only [px_bd_s, px_psh_s, px_psh_n, px_vb_s, px_ib_s, px_wb_s, px_bo_s, px_bo_n, Bool.cond_decide, cond_true, cond_false, ite_not, Bool.and_true, if_true, if_false, not_true_eq_false, not_false_eq_true, i10, eq_self, decide_true, decide_false, Bool.or_true, Bool.true_or, Bool.or_false, Bool.false_or, eX11_planned_0, eX11_planned_0_4, xX3_gangOf, eX3_gangOf_0, eX3_gangOf_15, eX3_gangOf_15_2, if_neg (nI_pos (show t < 2 ^ 31 by omega)), h51, nI_ltI, if_pos ht, a1, px_inbT, nI_clamp]
  · have e1 : M1 67 42 = nI n := by rw [a8]; exact h67
    rw [xX12_planned]
    simp (disch := omega) only [px_bd_s, px_psh_s, px_psh_n, px_vb_s, px_ib_s, px_wb_s, px_bo_s, px_bo_n, Bool.cond_decide, cond_true, cond_false, ite_not, Bool.and_true, if_true, if_false, not_true_eq_false, not_false_eq_true, i10, eq_self, decide_true, decide_false, Bool.or_true, Bool.true_or, Bool.or_false, Bool.false_or, eX12_planned_0, eX12_planned_0_7, eX12_planned_17, eX12_planned_17_2, c_in, e1, in_y ht (show n < 2 ^ 31 by omega), a2, px_inbT, nI_clamp, a6 t ht]
end S53
