/-! PART 77: FIT, TAPETOLD, SUM -/
/-- the class's side and the model's side of a survey -/
def ICa (s : Sv) (b : Nat) (M : Nat → Nat → Int32) : Prop := ICt s M ∧ ICd s M ∧ M 14 2 = nI b
def IMa (s : Sv) (b : Nat) (M : Nat → Nat → Int32) : Prop := IMt s M ∧ IMo s M ∧ M 67 12 = nI b
theorem ISd_a {s : Sv} {b : Nat} {M : Nat → Nat → Int32} (h : ISd s b M) : ISt s ∧ rg5 s ∧ 1 ≤ b ∧ b ≤ 15000 ∧ ICa s b M ∧ IMa s b M := by
  obtain ⟨a1, a2, b1, b2, a3, a4, a5, a6, a9, a10, a7, a8⟩ := h
  refine ⟨⟨a1, a2, fun k hk => (a8 k hk).2.2.2.2.2.2⟩, fun i hi => ?_, b1, b2, ⟨⟨a3, a5, fun k hk => ⟨(a8 k hk).1, (a8 k hk).2.2.1, (a8 k hk).2.2.2.2.1⟩⟩, fun i hi => ⟨(a7 i hi).1, (a7 i hi).2.2.1, (a7 i hi).2.2.2.2.1⟩, a9⟩, ⟨a4, a6, fun k hk => ⟨(a8 k hk).2.1, (a8 k hk).2.2.2.1, (a8 k hk).2.2.2.2.2.1⟩⟩, fun i hi => ⟨(a7 i hi).2.1, (a7 i hi).2.2.2.1, (a7 i hi).2.2.2.2.2.1⟩, a10⟩
  obtain ⟨_, _, _, _, _, _, r1, r2, r3, r4⟩ := a7 i hi
  show (Sx s i).natAbs ≤ 5000 ∧ (Sy s i).natAbs ≤ 5000
  omega
theorem ISd_b {s : Sv} {b : Nat} {M : Nat → Nat → Int32} (hs : ISt s) (hr : rg5 s) (b1 : 1 ≤ b) (b2 : b ≤ 15000) (hC : ICa s b M) (hM : IMa s b M) : ISd s b M := by
  refine ⟨hs.1, hs.2.1, b1, b2, hC.1.1, hM.1.1, hC.1.2.1, hM.1.2.1, hC.2.2, hM.2.2, fun i hi => ?_, fun k hk => ?_⟩
  · obtain ⟨c1, c2, c3⟩ := hC.2.1 i hi
    obtain ⟨m1, m2, m3⟩ := hM.2.1 i hi
    have r : (Sx s i).natAbs ≤ 5000 ∧ (Sy s i).natAbs ≤ 5000 := hr i hi
    exact ⟨c1, m1, c2, m2, c3, m3, by omega, by omega, by omega, by omega⟩
  · obtain ⟨c1, c2, c3⟩ := hC.1.2.2 k hk
    obtain ⟨m1, m2, m3⟩ := hM.1.2.2 k hk
    exact ⟨c1, m1, c2, m2, c3, m3, hs.2.2 k hk⟩
theorem ICa.fr {s : Sv} {b : Nat} {M M1 : Nat → Nat → Int32} (h : ICa s b M) (f : frm [14, 21, 22, 23, 24, 25, 26, 27] [] M M1) (f14 : ∀ j, j ≠ 9 → j ≠ 14 → M1 14 j = M 14 j) : ICa s b M1 := by
  unfold ICa ICt ICd
  rw [f14 0 (by decide) (by decide), f14 1 (by decide) (by decide), f14 2 (by decide) (by decide), f.1 15 (by decide) (by decide), f.1 16 (by decide) (by decide), f.1 17 (by decide) (by decide), f.1 18 (by decide) (by decide), f.1 19 (by decide) (by decide), f.1 20 (by decide) (by decide)]
  exact h
theorem IMa.fr {s : Sv} {b : Nat} {S K : List Nat} {M M1 : Nat → Nat → Int32} (h : IMa s b M) (f : frm S K M M1) (hS : ∀ a ∈ [68, 69, 72, 73, 74, 75], a ∉ S) (hK : ∀ k ∈ [0, 6, 12], k ∉ K) : IMa s b M1 := by
  unfold IMa IMt IMo
  rw [f.1 68 (by decide) (hS 68 (by decide)), f.1 69 (by decide) (hS 69 (by decide)), f.1 72 (by decide) (hS 72 (by decide)), f.1 73 (by decide) (hS 73 (by decide)), f.1 74 (by decide) (hS 74 (by decide)), f.1 75 (by decide) (hS 75 (by decide)), f.2 0 (hK 0 (by decide)), f.2 6 (hK 6 (by decide)), f.2 12 (hK 12 (by decide))]
  exact h
section S77
variable (d : Nat) (M : Nat → Nat → Int32) (J : Nat → Nat → Int64) (R : Nat → Nat → Option Nat) (c e nL : Nat) (xs : Nat → Int32) (D : px_H)
theorem c_rnd_l {s : Sv} {b : Nat} (hs : ISt s) (hr : rg5 s) (b2 : b ≤ 15000) : ∀ (g k r : Nat) (M : Nat → Nat → Int32), k + g = St s → ICa s b M → ISk s r M → k ≤ r → ∃ M1 r1, px_run (px_mk (kX7_fittedRound (px_ex px_tab (d + 4)))) 2 ([some (Value.ref (14)), some (Value.int (nI k))], [], (hp (M) (J) (R) (c) (e) nL xs (D))) = some (some (Value.int (nI (sv_fr s b g k))), (hp (M1) (J) (R) (c) (e) nL xs (D))) ∧ ISk s r1 M1 ∧ sv_fr s b g k < r1 ∧ frm [14, 21, 22, 23, 24, 25, 26, 27] [] M M1 ∧ ∀ j, j ≠ 9 → j ≠ 14 → M1 14 j = M 14 j
  | 0, k, r, M, hk, hC, hK, hkr => by
    have h24 := hs.2.1
    obtain ⟨M1, r1, q1, q2, q3, q4, q5, q6⟩ := c_fitn d M J R c e nL xs D hs hC.1 hC.2.1 hr hK (k := St s) (by omega) (Nat.le_refl _)
    rw [show k = St s from by omega]
    refine ⟨M1, r1, ?_, q2, q3, q5, q6⟩
    rw [eX7_fittedRound_2]
    simp (disch := omega) only [px_bd_s, px_psh_s, px_psh_n, px_vb_s, px_ib_s, px_wb_s, px_bo_s, px_bo_n, Bool.cond_decide, cond_true, cond_false, ite_not, Bool.and_true, if_true, if_false, not_true_eq_false, not_false_eq_true, i10, eq_self, decide_true, decide_false, Bool.or_true, Bool.true_or, Bool.or_false, Bool.false_or, Bool.false_eq_true, hC.1.2.1, nI_leI, Nat.le_refl, if_pos, eX7_fittedRound_36, q1, eX7_fittedRound_36_4, q6 1 (by decide) (by decide)]
    rfl
  | g + 1, k, r, M, hk, hC, hK, hkr => by
    have h24 := hs.2.1
    obtain ⟨M1, r1, q1, q2, q3, q4, q5, q6⟩ := c_fitn d M J R c e nL xs D hs hC.1 hC.2.1 hr hK (k := k) hkr (by omega)
    have x0 : ¬ nI (St s) ≤ nI k := fun q => by
      have := (nI_leI (by omega) (by omega)).mp q
      omega
    have hC1 := hC.fr q5 q6
    have e23 := (q2.2.2.1 k q3).1
    have wb := (sv_w_b s (sv_out s k) (sv_pos s k) (St s)).1
    have wm := sv_w_m hs (sv_out s k) (sv_pos_r hr (sv_out s k)) (St s) (Nat.le_refl _)
    have sz : (sv_w s (sv_out s k) (sv_pos s k) (St s)).1 = sv_size s k := rfl
    have sz' : (sv_w s (sv_out s k) (sv_fit s (sv_out s k)) (St s)).1 = sv_size s k := rfl
    rw [sz] at wb
    rw [sz'] at wm
    have xc : nI b < iI (sv_size s k) ↔ (b : Int) < sv_size s k := by
      rw [← iI_nat b]
      exact iI_lt (by omega) (by omega)
    rw [sv_fr_s]
    by_cases hz : sv_size s k ≤ (b : Int)
    · rw [if_pos hz]
      refine ⟨M1, r1, ?_, q2, q3, q5, q6⟩
      have hz' : ¬ (b : Int) < sv_size s k := by omega
      rw [eX7_fittedRound_2]
      simp (disch := omega) only [px_bd_s, px_psh_s, px_psh_n, px_vb_s, px_ib_s, px_wb_s, px_bo_s, px_bo_n, Bool.cond_decide, cond_true, cond_false, ite_not, Bool.and_true, if_true, if_false, not_true_eq_false, not_false_eq_true, i10, eq_self, decide_true, decide_false, Bool.or_true, Bool.true_or, Bool.or_false, Bool.false_or, Bool.false_eq_true, hC.1.2.1, x0, q1, eX7_fittedRound_2_7, px_inbT, nI_clamp, hC1.2.2, e23, xc, hz']
    · rw [if_neg hz]
      have hz' : (b : Int) < sv_size s k := by omega
      obtain ⟨M2, r2, p1, p2, p3, p4, p5⟩ := c_rnd_l hs hr b2 g (k + 1) r1 M1 (by omega) hC1 q2 (by omega)
      refine ⟨M2, r2, ?_, p2, p3, q5.tr p4, fun j h1 h2 => (p5 j h1 h2).trans (q6 j h1 h2)⟩
      refine Eq.trans ?_ p1
      rw [eX7_fittedRound_2]
      simp (disch := omega) only [px_bd_s, px_psh_s, px_psh_n, px_vb_s, px_ib_s, px_wb_s, px_bo_s, px_bo_n, Bool.cond_decide, cond_true, cond_false, ite_not, Bool.and_true, if_true, if_false, not_true_eq_false, not_false_eq_true, i10, eq_self, decide_true, decide_false, Bool.or_true, Bool.true_or, Bool.or_false, Bool.false_or, Bool.false_eq_true, hC.1.2.1, x0, q1, eX7_fittedRound_2_7, px_inbT, nI_clamp, hC1.2.2, e23, xc, hz', eX7_fittedRound_30, zp1]
theorem c_fitted {s : Sv} {b r : Nat} (hs : ISt s) (hr : rg5 s) (b2 : b ≤ 15000) (hC : ICa s b M) (hK : ISk s r M) : ∃ M1 r1, px_ex px_tab (d + 5) 88 [Value.ref (14)] (hp (M) (J) (R) (c) (e) nL xs (D)) = some (some (Value.int (nI (sv_rnd s b))), (hp (M1) (J) (R) (c) (e) nL xs (D))) ∧ ISk s r1 M1 ∧ sv_rnd s b < r1 ∧ frm [14, 21, 22, 23, 24, 25, 26, 27] [] M M1 ∧ ∀ j, j ≠ 9 → j ≠ 14 → M1 14 j = M 14 j := by
  obtain ⟨M1, r1, q1, q2⟩ := c_rnd_l d J R c e nL xs D hs hr b2 (St s) 0 r M (by omega) hC hK (Nat.zero_le _)
  refine ⟨M1, r1, ?_, q2⟩
  rw [xX7_fittedRound, eX7_fittedRound_0]
  exact q1
/-- both sides fit: the survey holds again -/
theorem ISv_f {s : Sv} {b r1 : Nat} {M M1 M2 : Nat → Nat → Int32} (hs : ISt s) (hr : rg5 s) (b1 : 1 ≤ b) (b2 : b ≤ 15000) (hC : ICa s b M) (hM : IMa s b M) (q2 : ISk s r1 M1) (q5 : frm [14, 21, 22, 23, 24, 25, 26, 27] [] M M1) (q6 : ∀ j, j ≠ 9 → j ≠ 14 → M1 14 j = M 14 j) (p2 : frm [70, 71, 76] [11] M1 M2) (p3 : M2 67 11 = 1) (p4 : KN s (sv_rnd s b) M2) : ISv M2 ∧ frm [14, 15, 16, 17, 18, 19, 20, 21, 22, 23, 24, 25, 26, 27, 68, 69, 70, 71, 72, 73, 74, 75, 76] [0, 6, 11, 12] M M2 := by
  have hC1 := hC.fr q5 q6
  have hC2 : ICa s b M2 := by
    unfold ICa ICt ICd
    rw [p2.1 14 (by decide) (by decide), p2.1 15 (by decide) (by decide), p2.1 16 (by decide) (by decide), p2.1 17 (by decide) (by decide), p2.1 18 (by decide) (by decide), p2.1 19 (by decide) (by decide), p2.1 20 (by decide) (by decide)]
    exact hC1
  have hM2 : IMa s b M2 := (hM.fr q5 (by decide) (by decide)).fr p2 (by decide) (by decide)
  refine ⟨⟨s, b, r1, ISd_b hs hr b1 b2 hC2 hM2, ?_, Or.inr ⟨p3, p4⟩⟩, (q5.mono (by decide) (by decide)).tr (p2.mono (by decide) (by decide))⟩
  unfold ISk
  rw [p2.1 14 (by decide) (by decide), p2.1 21 (by decide) (by decide), p2.1 22 (by decide) (by decide), p2.1 23 (by decide) (by decide), p2.1 24 (by decide) (by decide)]
  exact q2
theorem ISm_fr {s : Sv} {b : Nat} {M M1 : Nat → Nat → Int32} (q5 : frm [14, 21, 22, 23, 24, 25, 26, 27] [] M M1) (h : ISm s b M) : ISm s b M1 := by
  unfold ISm
  rw [q5.1 70 (by decide) (by decide), q5.1 71 (by decide) (by decide), q5.1 76 (by decide) (by decide), q5.2 11 (by decide)]
  exact h
theorem t_fit (hI : ISv M) (v u : Int32) : ∃ w M1 M2, px_ex px_tab (d + 7) 126 [Value.ref (13), Value.int (v), Value.int (u)] (hp (M) (J) (R) (c) (e) nL xs (D)) = some (some (Value.long (w)), (hp (M1) (J) (R) (c) (e) nL xs (D))) ∧ px_ex px_tab (d + 7) 179 [Value.ref (67), Value.int (v), Value.int (u)] (hp (M1) (J) (R) (c) (e) nL xs (D)) = some (some (Value.long (w)), (hp (M2) (J) (R) (c) (e) nL xs (D))) ∧ ISv M2 ∧ frm [14, 15, 16, 17, 18, 19, 20, 21, 22, 23, 24, 25, 26, 27, 68, 69, 70, 71, 72, 73, 74, 75, 76] [0, 6, 11, 12] M M2 := by
  obtain ⟨s, b, r, h1, h2, h3⟩ := hI
  obtain ⟨hs, hr, b1, b2, hC, hM⟩ := ISd_a h1
  have h8 := hs.1
  have h24 := hs.2.1
  rcases in_01 v (n := Sm s) (by omega) with ⟨g1, i, hi, rfl⟩ | g1
  · by_cases hu : 0 ≤ u ∧ u ≤ 1
    · obtain ⟨M1, r1, q1, q2, q3, q5, q6⟩ := c_fitted d M J R c e nL xs D hs hr b2 hC h2
      have hM1 := hM.fr q5 (by decide) (by decide)
      obtain ⟨M2, p1, p2, p3, p4⟩ := m_knows d M1 J R c e nL xs D b2 hs hM1.1 hM1.2.1 hr hM1.2.2 (ISm_fr q5 h3)
      obtain ⟨z1, z2⟩ := ISv_f hs hr b1 b2 hC hM q2 q5 q6 p2 p3 p4
      have c1 := (q2.2.2.1 _ q3).2 i hi
      have m1 := p4.1 i hi
      have rb := sv_rnd_b s b
      have e8 : (8 : Int32) * nI (sv_rnd s b) = nI (8 * sv_rnd s b) := pk_mul 8 _
      by_cases h0 : u = 0
      · refine ⟨(iI (sv_pos s (sv_rnd s b) i).1).toInt64, M1, M2, ?_, ?_, z1, z2⟩
        · rw [xX11_fit]
          simp (disch := omega) only [px_bd_s, px_psh_s, px_psh_n, px_vb_s, px_ib_s, px_wb_s, px_bo_s, px_bo_n, Bool.cond_decide, cond_true, cond_false, ite_not, Bool.and_true, if_true, if_false, not_true_eq_false, not_false_eq_true, i10, eq_self, decide_true, decide_false, Bool.or_true, Bool.true_or, Bool.or_false, Bool.false_or, Bool.false_eq_true, eX11_fit_0, xX7_markTold, eX7_markTold_0, eX7_markTold_0_3, eX7_markTold_21, c_hasMark _ _ _ _ _ _ _ _ _ h8 hC.1.1, g1, Int32.not_lt.mpr hu.1, hu.2, q1]
          simp (disch := omega) only [px_bd_s, px_psh_s, px_psh_n, px_vb_s, px_ib_s, px_wb_s, px_bo_s, px_bo_n, Bool.cond_decide, cond_true, cond_false, ite_not, Bool.and_true, if_true, if_false, not_true_eq_false, not_false_eq_true, i10, eq_self, decide_true, decide_false, Bool.or_true, Bool.true_or, Bool.or_false, Bool.false_or, Bool.false_eq_true, eX11_fit_0, eX11_fit_0_5, eX7_markTold_0, eX7_markTold_0_3, eX7_markTold_17, eX7_markTold_21, eX7_markTold_21_3, eX7_markTold_45, eX7_markTold_52, h0, e8, nI_add, px_inbT, nI_clamp, c1.1]
        · rw [xX12_fit]
          simp (disch := omega) only [px_bd_s, px_psh_s, px_psh_n, px_vb_s, px_ib_s, px_wb_s, px_bo_s, px_bo_n, Bool.cond_decide, cond_true, cond_false, ite_not, Bool.and_true, if_true, if_false, not_true_eq_false, not_false_eq_true, i10, eq_self, decide_true, decide_false, Bool.or_true, Bool.true_or, Bool.or_false, Bool.false_or, Bool.false_eq_true, eX12_fit_0, eX12_fit_0_3, eX12_fit_17, eX12_fit_0_8, eX12_fit_21, eX12_fit_21_2, eX12_fit_39, eX12_fit_46, m_isMark, c_in, hM1.1.1, g1, px_in_1 hu, p1]
          simp (disch := omega) only [px_bd_s, px_psh_s, px_psh_n, px_vb_s, px_ib_s, px_wb_s, px_bo_s, px_bo_n, Bool.cond_decide, cond_true, cond_false, ite_not, Bool.and_true, if_true, if_false, not_true_eq_false, not_false_eq_true, i10, eq_self, decide_true, decide_false, Bool.or_true, Bool.true_or, Bool.or_false, Bool.false_or, Bool.false_eq_true, eX12_fit_0, eX12_fit_0_3, eX12_fit_17, eX12_fit_0_8, eX12_fit_21, eX12_fit_21_2, eX12_fit_39, eX12_fit_46, h0, px_inbT, nI_clamp, m1.1]
      · refine ⟨(iI (sv_pos s (sv_rnd s b) i).2).toInt64, M1, M2, ?_, ?_, z1, z2⟩
        · rw [xX11_fit]
          simp (disch := omega) only [px_bd_s, px_psh_s, px_psh_n, px_vb_s, px_ib_s, px_wb_s, px_bo_s, px_bo_n, Bool.cond_decide, cond_true, cond_false, ite_not, Bool.and_true, if_true, if_false, not_true_eq_false, not_false_eq_true, i10, eq_self, decide_true, decide_false, Bool.or_true, Bool.true_or, Bool.or_false, Bool.false_or, Bool.false_eq_true, eX11_fit_0, xX7_markTold, eX7_markTold_0, eX7_markTold_0_3, eX7_markTold_21, c_hasMark _ _ _ _ _ _ _ _ _ h8 hC.1.1, g1, Int32.not_lt.mpr hu.1, hu.2, q1]
          simp (disch := omega) only [px_bd_s, px_psh_s, px_psh_n, px_vb_s, px_ib_s, px_wb_s, px_bo_s, px_bo_n, Bool.cond_decide, cond_true, cond_false, ite_not, Bool.and_true, if_true, if_false, not_true_eq_false, not_false_eq_true, i10, eq_self, decide_true, decide_false, Bool.or_true, Bool.true_or, Bool.or_false, Bool.false_or, Bool.false_eq_true, eX11_fit_0, eX11_fit_0_5, eX7_markTold_0, eX7_markTold_0_3, eX7_markTold_17, eX7_markTold_21, eX7_markTold_21_3, eX7_markTold_45, eX7_markTold_52, h0, e8, nI_add, px_inbT, nI_clamp, c1.2]
        · rw [xX12_fit]
          simp (disch := omega) only [px_bd_s, px_psh_s, px_psh_n, px_vb_s, px_ib_s, px_wb_s, px_bo_s, px_bo_n, Bool.cond_decide, cond_true, cond_false, ite_not, Bool.and_true, if_true, if_false, not_true_eq_false, not_false_eq_true, i10, eq_self, decide_true, decide_false, Bool.or_true, Bool.true_or, Bool.or_false, Bool.false_or, Bool.false_eq_true, eX12_fit_0, eX12_fit_0_3, eX12_fit_17, eX12_fit_0_8, eX12_fit_21, eX12_fit_21_2, eX12_fit_39, eX12_fit_46, m_isMark, c_in, hM1.1.1, g1, px_in_1 hu, p1]
          simp (disch := omega) only [px_bd_s, px_psh_s, px_psh_n, px_vb_s, px_ib_s, px_wb_s, px_bo_s, px_bo_n, Bool.cond_decide, cond_true, cond_false, ite_not, Bool.and_true, if_true, if_false, not_true_eq_false, not_false_eq_true, i10, eq_self, decide_true, decide_false, Bool.or_true, Bool.true_or, Bool.or_false, Bool.false_or, Bool.false_eq_true, eX12_fit_0, eX12_fit_0_3, eX12_fit_17, eX12_fit_0_8, eX12_fit_21, eX12_fit_21_2, eX12_fit_39, eX12_fit_46, h0, px_inbT, nI_clamp, m1.2]
    · refine ⟨-4611686018427387904, M, M, ?_, ?_, ⟨s, b, r, h1, h2, h3⟩, frm.rf _ _ _⟩
      · rw [xX11_fit]
        simp only [px_bd_s, px_psh_s, px_psh_n, px_vb_s, px_ib_s, px_wb_s, px_bo_s, px_bo_n, Bool.cond_decide, cond_true, cond_false, ite_not, Bool.and_true, if_true, if_false, not_true_eq_false, not_false_eq_true, i10, eq_self, decide_true, decide_false, Bool.or_true, Bool.true_or, Bool.or_false, Bool.false_or, Bool.false_eq_true, eX11_fit_0, xX7_markTold, eX7_markTold_0, eX7_markTold_0_3, c_hasMark _ _ _ _ _ _ _ _ _ h8 hC.1.1, g1]
        by_cases k1 : u < 0
        · simp only [px_bd_s, px_psh_s, px_psh_n, px_vb_s, px_ib_s, px_wb_s, px_bo_s, px_bo_n, Bool.cond_decide, cond_true, cond_false, ite_not, Bool.and_true, if_true, if_false, not_true_eq_false, not_false_eq_true, i10, eq_self, decide_true, decide_false, Bool.or_true, Bool.true_or, Bool.or_false, Bool.false_or, Bool.false_eq_true, k1, eX7_markTold_17, eX11_fit_0, eX11_fit_0_5]
        · have k2 : ¬ u ≤ 1 := fun q => hu ⟨Int32.not_lt.mp k1, q⟩
          simp only [px_bd_s, px_psh_s, px_psh_n, px_vb_s, px_ib_s, px_wb_s, px_bo_s, px_bo_n, Bool.cond_decide, cond_true, cond_false, ite_not, Bool.and_true, if_true, if_false, not_true_eq_false, not_false_eq_true, i10, eq_self, decide_true, decide_false, Bool.or_true, Bool.true_or, Bool.or_false, Bool.false_or, Bool.false_eq_true, k1, k2, eX7_markTold_17, eX11_fit_0, eX11_fit_0_5]
      · rw [xX12_fit]
        simp only [px_bd_s, px_psh_s, px_psh_n, px_vb_s, px_ib_s, px_wb_s, px_bo_s, px_bo_n, Bool.cond_decide, cond_true, cond_false, ite_not, Bool.and_true, if_true, if_false, not_true_eq_false, not_false_eq_true, i10, eq_self, decide_true, decide_false, Bool.or_true, Bool.true_or, Bool.or_false, Bool.false_or, Bool.false_eq_true, eX12_fit_0, eX12_fit_0_3, eX12_fit_17, eX12_fit_0_8, eX12_fit_21, eX12_fit_21_2, eX12_fit_39, eX12_fit_46, m_isMark, c_in, hM.1.1, g1, px_in_00 hu]
  · refine ⟨-4611686018427387904, M, M, ?_, ?_, ⟨s, b, r, h1, h2, h3⟩, frm.rf _ _ _⟩
    · rw [xX11_fit]
      simp only [px_bd_s, px_psh_s, px_psh_n, px_vb_s, px_ib_s, px_wb_s, px_bo_s, px_bo_n, Bool.cond_decide, cond_true, cond_false, ite_not, Bool.and_true, if_true, if_false, not_true_eq_false, not_false_eq_true, i10, eq_self, decide_true, decide_false, Bool.or_true, Bool.true_or, Bool.or_false, Bool.false_or, Bool.false_eq_true, eX11_fit_0, eX11_fit_0_5, xX7_markTold, eX7_markTold_0, eX7_markTold_0_3, eX7_markTold_17, c_hasMark _ _ _ _ _ _ _ _ _ h8 hC.1.1, g1]
    · rw [xX12_fit]
      simp only [px_bd_s, px_psh_s, px_psh_n, px_vb_s, px_ib_s, px_wb_s, px_bo_s, px_bo_n, Bool.cond_decide, cond_true, cond_false, ite_not, Bool.and_true, if_true, if_false, not_true_eq_false, not_false_eq_true, i10, eq_self, decide_true, decide_false, Bool.or_true, Bool.true_or, Bool.or_false, Bool.false_or, Bool.false_eq_true, eX12_fit_0, eX12_fit_0_3, eX12_fit_17, eX12_fit_0_8, eX12_fit_21, eX12_fit_21_2, eX12_fit_39, eX12_fit_46, m_isMark, hM.1.1, g1]
end S77
