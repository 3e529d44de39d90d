/-! PART 78: TAPETOLD, SUM, COUNT 12 -/
def tsum (s : Sv) (o : Nat → Bool) (p : Nat → Int × Int) : Nat → Int
  | 0 => 0
  | k + 1 => tsum s o p k + (if o k = true then 0 else sv_mis s p k * sv_mis s p k)
theorem tsum_s (s : Sv) (o : Nat → Bool) (p : Nat → Int × Int) (k : Nat) : tsum s o p (k + 1) = tsum s o p k + (if o k = true then 0 else sv_mis s p k * sv_mis s p k) := rfl
theorem ISk_o {s : Sv} {r k : Nat} {M : Nat → Nat → Int32} (hs : ISt s) (h : ISk s r M) (hk : k < r) : ICo s k (sv_out s k) M := fun j hj => by
  have h24 := hs.2.1
  have h1 := h.2.1
  obtain ⟨q, q1, q2, q3⟩ := h.2.2.2 j hj
  exact ⟨q, q1, by omega, q3 k (by omega)⟩
theorem ISk_p {s : Sv} {r k : Nat} {M : Nat → Nat → Int32} (h : ISk s r M) (hk : k < r) : ICp s k (sv_pos s k) M := fun i hi => (h.2.2.1 k hk).2 i hi
theorem sv_out_u (s : Sv) : ∀ r, cntB (sv_out s r) (St s) ≤ r
  | 0 => by
    have : ∀ k, cntB (sv_out s 0) k = 0 := by
      intro k
      induction k with
      | zero => rfl
      | succ k ih => rw [cntB_s, ih]; rfl
    rw [this]
    exact Nat.le_refl _
  | r + 1 => by
    have ih := sv_out_u s r
    by_cases h : 0 ≤ sv_size s r
    · obtain ⟨w1, w2⟩ := (sv_w_b s (sv_out s r) (sv_pos s r) (St s)).2 h
      have e : sv_out s (r + 1) = fun j => sv_out s r j || decide (j = (sv_w s (sv_out s r) (sv_pos s r) (St s)).2) := by
        rw [sv_out_s]
        simp [h]
      rw [e, cntB_or _ _ w2, if_pos w1]
      omega
    · have e : sv_out s (r + 1) = sv_out s r := by
        rw [sv_out_s]
        simp [h]
      rw [e]
      omega
theorem sv_out_n (s : Sv) {r : Nat} (h : r ≤ St s) : cntB (sv_out s r) (St s) = r := Nat.le_antisymm (sv_out_u s r) (sv_out_c s r h)
section S78
variable (d : Nat) (M : Nat → Nat → Int32) (J : Nat → Nat → Int64) (R : Nat → Nat → Option Nat) (c e nL : Nat) (xs : Nat → Int32) (D : px_H)
theorem t_tapeTold (hI : ISv M) (v u : Int32) : ∃ w M1 M2, px_ex px_tab (d + 7) 127 [Value.ref (13), Value.int (v), Value.int (u)] (hp (M) (J) (R) (c) (e) nL xs (D)) = some (some (Value.long (w)), (hp (M1) (J) (R) (c) (e) nL xs (D))) ∧ px_ex px_tab (d + 7) 180 [Value.ref (67), Value.int (v), Value.int (u)] (hp (M1) (J) (R) (c) (e) nL xs (D)) = some (some (Value.long (w)), (hp (M2) (J) (R) (c) (e) nL xs (D))) ∧ ISv M2 ∧ frm [14, 15, 16, 17, 18, 19, 20, 21, 22, 23, 24, 25, 26, 27, 68, 69, 70, 71, 72, 73, 74, 75, 76] [0, 6, 11, 12] M M2 := by
  obtain ⟨s, b, r, h1, h2, h3⟩ := hI
  obtain ⟨hs, hr, b1, b2, hC, hM⟩ := ISd_a h1
  have h8 := hs.1
  have h24 := hs.2.1
  rcases pk_ix v (n := St s) (by omega) with hv | hv | ⟨i, hi, rfl⟩
  · refine ⟨-4611686018427387904, M, M, ?_, ?_, ⟨s, b, r, h1, h2, h3⟩, frm.rf _ _ _⟩
    · rw [xX11_tapeTold]
      simp only [px_bd_s, px_psh_s, px_psh_n, px_vb_s, px_ib_s, px_wb_s, px_bo_s, px_bo_n, Bool.cond_decide, cond_true, cond_false, ite_not, Bool.and_true, if_true, if_false, not_true_eq_false, not_false_eq_true, i10, eq_self, decide_true, decide_false, Bool.or_true, Bool.true_or, Bool.or_false, Bool.false_or, Bool.false_eq_true, eX11_tapeTold_0, eX11_tapeTold_0_5, xX7_tapeItem, eX7_tapeItem_0, eX7_tapeItem_12, hv]
    · rw [xX12_tapeTold]
      simp only [px_bd_s, px_psh_s, px_psh_n, px_vb_s, px_ib_s, px_wb_s, px_bo_s, px_bo_n, Bool.cond_decide, cond_true, cond_false, ite_not, Bool.and_true, if_true, if_false, not_true_eq_false, not_false_eq_true, i10, eq_self, decide_true, decide_false, Bool.or_true, Bool.true_or, Bool.or_false, Bool.false_or, Bool.false_eq_true, eX12_tapeTold_0, eX12_tapeTold_0_7, eX12_tapeTold_23, eX12_tapeTold_0_12, eX12_tapeTold_27, eX12_tapeTold_27_2, eX12_tapeTold_103, eX12_tapeTold_88, eX12_tapeTold_80, eX12_tapeTold_72, eX12_tapeTold_64, eX12_tapeTold_103_3, eX12_tapeTold_101, eX12_tapeTold_102, c_in, hM.1.2.1, in_n (n := St s) (by omega) (Or.inl hv)]
  · refine ⟨-4611686018427387904, M, M, ?_, ?_, ⟨s, b, r, h1, h2, h3⟩, frm.rf _ _ _⟩
    · rw [xX11_tapeTold]
      simp only [px_bd_s, px_psh_s, px_psh_n, px_vb_s, px_ib_s, px_wb_s, px_bo_s, px_bo_n, Bool.cond_decide, cond_true, cond_false, ite_not, Bool.and_true, if_true, if_false, not_true_eq_false, not_false_eq_true, i10, eq_self, decide_true, decide_false, Bool.or_true, Bool.true_or, Bool.or_false, Bool.false_or, Bool.false_eq_true, eX11_tapeTold_0, eX11_tapeTold_0_5, xX7_tapeItem, eX7_tapeItem_0, eX7_tapeItem_12, hC.1.2.1, Int32.not_lt.mpr hv]
      by_cases k : v < 0
      · simp only [px_bd_s, px_psh_s, px_psh_n, px_vb_s, px_ib_s, px_wb_s, px_bo_s, px_bo_n, Bool.cond_decide, cond_true, cond_false, ite_not, Bool.and_true, if_true, if_false, not_true_eq_false, not_false_eq_true, i10, eq_self, decide_true, decide_false, Bool.or_true, Bool.true_or, Bool.or_false, Bool.false_or, Bool.false_eq_true, k, eX11_tapeTold_0, eX11_tapeTold_0_5, eX7_tapeItem_12]
      · simp only [px_bd_s, px_psh_s, px_psh_n, px_vb_s, px_ib_s, px_wb_s, px_bo_s, px_bo_n, Bool.cond_decide, cond_true, cond_false, ite_not, Bool.and_true, if_true, if_false, not_true_eq_false, not_false_eq_true, i10, eq_self, decide_true, decide_false, Bool.or_true, Bool.true_or, Bool.or_false, Bool.false_or, Bool.false_eq_true, k, eX11_tapeTold_0, eX11_tapeTold_0_5, eX7_tapeItem_12]
    · rw [xX12_tapeTold]
      simp only [px_bd_s, px_psh_s, px_psh_n, px_vb_s, px_ib_s, px_wb_s, px_bo_s, px_bo_n, Bool.cond_decide, cond_true, cond_false, ite_not, Bool.and_true, if_true, if_false, not_true_eq_false, not_false_eq_true, i10, eq_self, decide_true, decide_false, Bool.or_true, Bool.true_or, Bool.or_false, Bool.false_or, Bool.false_eq_true, eX12_tapeTold_0, eX12_tapeTold_0_7, eX12_tapeTold_23, eX12_tapeTold_0_12, eX12_tapeTold_27, eX12_tapeTold_27_2, eX12_tapeTold_103, eX12_tapeTold_88, eX12_tapeTold_80, eX12_tapeTold_72, eX12_tapeTold_64, eX12_tapeTold_103_3, eX12_tapeTold_101, eX12_tapeTold_102, c_in, hM.1.2.1, in_n (n := St s) (by omega) (Or.inr hv)]
  · have x1 : ¬ nI i < 0 := nI_pos (by omega)
    have x2 : nI i < nI (St s) := (nI_ltI (by omega) (by omega)).mpr hi
    have x3 : px_in (nI i) 0 (nI (St s) - 1) = 1 := in_y hi (by omega)
    obtain ⟨c1, c2, c3⟩ := hC.1.2.2 i hi
    by_cases hu : 0 ≤ u ∧ u ≤ 4
    · by_cases k0 : u = 0 ∨ u = 1 ∨ u = 2
      · obtain ⟨M2, p1, p2, p3, p4⟩ := m_knows d M J R c e nL xs D b2 hs hM.1 hM.2.1 hr hM.2.2 h3
        obtain ⟨z1, z2⟩ := ISv_f hs hr b1 b2 hC hM h2 (frm.rf _ _ _) (fun _ _ _ => rfl) p2 p3 p4
        obtain ⟨m1, m2, m3⟩ := (hM.fr p2 (by decide) (by decide)).1.2.2 i hi
        rcases k0 with rfl | rfl | rfl
        · refine ⟨(nI (Sa s i)).toInt64, M, M2, ?_, ?_, z1, z2⟩
          · rw [xX11_tapeTold]
            simp (disch := omega) only [px_bd_s, px_psh_s, px_psh_n, px_vb_s, px_ib_s, px_wb_s, px_bo_s, px_bo_n, Bool.cond_decide, cond_true, cond_false, ite_not, Bool.and_true, if_true, if_false, not_true_eq_false, not_false_eq_true, i10, eq_self, decide_true, decide_false, Bool.or_true, Bool.true_or, Bool.or_false, Bool.false_or, Bool.false_eq_true, eX11_tapeTold_0, eX11_tapeTold_0_5, xX7_tapeItem, eX7_tapeItem_0, eX7_tapeItem_16, eX7_tapeItem_52, hC.1.2.1, x1, x2, px_inbT, nI_clamp, c1]
          · rw [xX12_tapeTold]
            simp (disch := omega) only [px_bd_s, px_psh_s, px_psh_n, px_vb_s, px_ib_s, px_wb_s, px_bo_s, px_bo_n, Bool.cond_decide, cond_true, cond_false, ite_not, Bool.and_true, if_true, if_false, not_true_eq_false, not_false_eq_true, i10, eq_self, decide_true, decide_false, Bool.or_true, Bool.true_or, Bool.or_false, Bool.false_or, Bool.false_eq_true, eX12_tapeTold_0, eX12_tapeTold_0_7, eX12_tapeTold_23, eX12_tapeTold_0_12, eX12_tapeTold_27, eX12_tapeTold_27_2, eX12_tapeTold_103, eX12_tapeTold_88, eX12_tapeTold_80, eX12_tapeTold_72, eX12_tapeTold_64, eX12_tapeTold_103_3, eX12_tapeTold_101, eX12_tapeTold_102, c_in, hM.1.2.1, x3, px_in_1 hu, p1, px_inbT, nI_clamp, m1]
        · refine ⟨(nI (Sb s i)).toInt64, M, M2, ?_, ?_, z1, z2⟩
          · rw [xX11_tapeTold]
            simp (disch := omega) only [px_bd_s, px_psh_s, px_psh_n, px_vb_s, px_ib_s, px_wb_s, px_bo_s, px_bo_n, Bool.cond_decide, cond_true, cond_false, ite_not, Bool.and_true, if_true, if_false, not_true_eq_false, not_false_eq_true, i10, eq_self, decide_true, decide_false, Bool.or_true, Bool.true_or, Bool.or_false, Bool.false_or, Bool.false_eq_true, eX11_tapeTold_0, eX11_tapeTold_0_5, xX7_tapeItem, eX7_tapeItem_0, eX7_tapeItem_16, eX7_tapeItem_60, hC.1.2.1, x1, x2, px_inbT, nI_clamp, c2, show ¬ (1 : Int32) = 0 from by decide]
          · rw [xX12_tapeTold]
            simp (disch := omega) only [px_bd_s, px_psh_s, px_psh_n, px_vb_s, px_ib_s, px_wb_s, px_bo_s, px_bo_n, Bool.cond_decide, cond_true, cond_false, ite_not, Bool.and_true, if_true, if_false, not_true_eq_false, not_false_eq_true, i10, eq_self, decide_true, decide_false, Bool.or_true, Bool.true_or, Bool.or_false, Bool.false_or, Bool.false_eq_true, eX12_tapeTold_0, eX12_tapeTold_0_7, eX12_tapeTold_23, eX12_tapeTold_0_12, eX12_tapeTold_27, eX12_tapeTold_27_2, eX12_tapeTold_103, eX12_tapeTold_88, eX12_tapeTold_80, eX12_tapeTold_72, eX12_tapeTold_64, eX12_tapeTold_103_3, eX12_tapeTold_101, eX12_tapeTold_102, c_in, hM.1.2.1, x3, px_in_1 hu, p1, px_inbT, nI_clamp, m2, show ¬ (1 : Int32) = 0 from by decide]
        · refine ⟨(nI (Sl s i)).toInt64, M, M2, ?_, ?_, z1, z2⟩
          · rw [xX11_tapeTold]
            simp (disch := omega) only [px_bd_s, px_psh_s, px_psh_n, px_vb_s, px_ib_s, px_wb_s, px_bo_s, px_bo_n, Bool.cond_decide, cond_true, cond_false, ite_not, Bool.and_true, if_true, if_false, not_true_eq_false, not_false_eq_true, i10, eq_self, decide_true, decide_false, Bool.or_true, Bool.true_or, Bool.or_false, Bool.false_or, Bool.false_eq_true, eX11_tapeTold_0, eX11_tapeTold_0_5, xX7_tapeItem, eX7_tapeItem_0, eX7_tapeItem_16, eX7_tapeItem_68, hC.1.2.1, x1, x2, px_inbT, nI_clamp, c3, show ¬ (2 : Int32) = 0 from by decide, show ¬ (2 : Int32) = 1 from by decide]
          · rw [xX12_tapeTold]
            simp (disch := omega) only [px_bd_s, px_psh_s, px_psh_n, px_vb_s, px_ib_s, px_wb_s, px_bo_s, px_bo_n, Bool.cond_decide, cond_true, cond_false, ite_not, Bool.and_true, if_true, if_false, not_true_eq_false, not_false_eq_true, i10, eq_self, decide_true, decide_false, Bool.or_true, Bool.true_or, Bool.or_false, Bool.false_or, Bool.false_eq_true, eX12_tapeTold_0, eX12_tapeTold_0_7, eX12_tapeTold_23, eX12_tapeTold_0_12, eX12_tapeTold_27, eX12_tapeTold_27_2, eX12_tapeTold_103, eX12_tapeTold_88, eX12_tapeTold_80, eX12_tapeTold_72, eX12_tapeTold_64, eX12_tapeTold_103_3, eX12_tapeTold_101, eX12_tapeTold_102, c_in, hM.1.2.1, x3, px_in_1 hu, p1, px_inbT, nI_clamp, m3, show ¬ (2 : Int32) = 0 from by decide, show ¬ (2 : Int32) = 1 from by decide]
      · have n0 : ¬ u = 0 := fun k => k0 (Or.inl k)
        have n1 : ¬ u = 1 := fun k => k0 (Or.inr (Or.inl k))
        have n2 : ¬ u = 2 := fun k => k0 (Or.inr (Or.inr k))
        obtain ⟨M1, r1, q1, q2, q3, q5, q6⟩ := c_fitted d M J R c e nL xs D hs hr b2 hC h2
        have hM1 := hM.fr q5 (by decide) (by decide)
        have hC1 := hC.fr q5 q6
        obtain ⟨M2, p1, p2, p3, p4⟩ := m_knows d M1 J R c e nL xs D b2 hs hM1.1 hM1.2.1 hr hM1.2.2 (ISm_fr q5 h3)
        obtain ⟨z1, z2⟩ := ISv_f hs hr b1 b2 hC hM q2 q5 q6 p2 p3 p4
        have hM2 := hM1.fr p2 (by decide) (by decide)
        have rb := sv_rnd_b s b
        by_cases n3 : u = 3
        · subst n3
          have io := c_isOut (d + 4) M1 J R c e nL xs D hs (by omega) (ISk_o hs q2 q3) hi
          have m1 := p4.2 i hi
          refine ⟨if sv_out s (sv_rnd s b) i = true then 1 else 0, M1, M2, ?_, ?_, z1, z2⟩
          · rw [xX11_tapeTold]
            simp (disch := omega) only [px_bd_s, px_psh_s, px_psh_n, px_vb_s, px_ib_s, px_wb_s, px_bo_s, px_bo_n, Bool.cond_decide, cond_true, cond_false, ite_not, Bool.and_true, if_true, if_false, not_true_eq_false, not_false_eq_true, i10, eq_self, decide_true, decide_false, Bool.or_true, Bool.true_or, Bool.or_false, Bool.false_or, Bool.false_eq_true, eX11_tapeTold_0, xX7_tapeItem, eX7_tapeItem_0, eX7_tapeItem_16, eX7_tapeItem_76, hC.1.2.1, x1, x2, n0, n1, n2, q1]
            simp only [px_bd_s, px_psh_s, px_psh_n, px_vb_s, px_ib_s, px_wb_s, px_bo_s, px_bo_n, Bool.cond_decide, cond_true, cond_false, ite_not, Bool.and_true, if_true, if_false, not_true_eq_false, not_false_eq_true, i10, eq_self, decide_true, decide_false, Bool.or_true, Bool.true_or, Bool.or_false, Bool.false_or, Bool.false_eq_true, eX7_tapeItem_76_4, io]
            by_cases k : sv_out s (sv_rnd s b) i = true
            · simp only [px_bd_s, px_psh_s, px_psh_n, px_vb_s, px_ib_s, px_wb_s, px_bo_s, px_bo_n, Bool.cond_decide, cond_true, cond_false, ite_not, Bool.and_true, if_true, if_false, not_true_eq_false, not_false_eq_true, i10, eq_self, decide_true, decide_false, Bool.or_true, Bool.true_or, Bool.or_false, Bool.false_or, Bool.false_eq_true, k, eX11_tapeTold_0, eX11_tapeTold_0_5, eX7_tapeItem_76_5, eX7_tapeItem_92, eX7_tapeItem_93]
            · simp only [px_bd_s, px_psh_s, px_psh_n, px_vb_s, px_ib_s, px_wb_s, px_bo_s, px_bo_n, Bool.cond_decide, cond_true, cond_false, ite_not, Bool.and_true, if_true, if_false, not_true_eq_false, not_false_eq_true, i10, eq_self, decide_true, decide_false, Bool.or_true, Bool.true_or, Bool.or_false, Bool.false_or, Bool.false_eq_true, k, eX11_tapeTold_0, eX11_tapeTold_0_5, eX7_tapeItem_76_5, eX7_tapeItem_92, eX7_tapeItem_93]
          · rw [xX12_tapeTold]
            simp (disch := omega) only [px_bd_s, px_psh_s, px_psh_n, px_vb_s, px_ib_s, px_wb_s, px_bo_s, px_bo_n, Bool.cond_decide, cond_true, cond_false, ite_not, Bool.and_true, if_true, if_false, not_true_eq_false, not_false_eq_true, i10, eq_self, decide_true, decide_false, Bool.or_true, Bool.true_or, Bool.or_false, Bool.false_or, Bool.false_eq_true, eX12_tapeTold_0, eX12_tapeTold_0_7, eX12_tapeTold_23, eX12_tapeTold_0_12, eX12_tapeTold_27, eX12_tapeTold_27_2, eX12_tapeTold_103, eX12_tapeTold_88, eX12_tapeTold_80, eX12_tapeTold_72, eX12_tapeTold_64, eX12_tapeTold_103_3, eX12_tapeTold_101, eX12_tapeTold_102, c_in, hM1.1.2.1, x3, px_in_1 hu, p1, n0, n1, n2, px_inbT, nI_clamp, m1]
            by_cases k : sv_out s (sv_rnd s b) i = true
            · simp only [px_bd_s, px_psh_s, px_psh_n, px_vb_s, px_ib_s, px_wb_s, px_bo_s, px_bo_n, Bool.cond_decide, cond_true, cond_false, ite_not, Bool.and_true, if_true, if_false, not_true_eq_false, not_false_eq_true, i10, eq_self, decide_true, decide_false, Bool.or_true, Bool.true_or, Bool.or_false, Bool.false_or, Bool.false_eq_true, k, eX12_tapeTold_0, eX12_tapeTold_0_7, eX12_tapeTold_23, eX12_tapeTold_0_12, eX12_tapeTold_27, eX12_tapeTold_27_2, eX12_tapeTold_103, eX12_tapeTold_88, eX12_tapeTold_80, eX12_tapeTold_72, eX12_tapeTold_64, eX12_tapeTold_103_3, eX12_tapeTold_101, eX12_tapeTold_102]
            · simp only [px_bd_s, px_psh_s, px_psh_n, px_vb_s, px_ib_s, px_wb_s, px_bo_s, px_bo_n, Bool.cond_decide, cond_true, cond_false, ite_not, Bool.and_true, if_true, if_false, not_true_eq_false, not_false_eq_true, i10, eq_self, decide_true, decide_false, Bool.or_true, Bool.true_or, Bool.or_false, Bool.false_or, Bool.false_eq_true, k, eX12_tapeTold_0, eX12_tapeTold_0_7, eX12_tapeTold_23, eX12_tapeTold_0_12, eX12_tapeTold_27, eX12_tapeTold_27_2, eX12_tapeTold_103, eX12_tapeTold_88, eX12_tapeTold_80, eX12_tapeTold_72, eX12_tapeTold_64, eX12_tapeTold_103_3, eX12_tapeTold_101, eX12_tapeTold_102]
        · have n4 : u = 4 := by
            obtain ⟨j, hj, rfl⟩ := nI_of2 (x := u) (M := 4) (n := 4) (by decide) (Int32.not_lt.mpr hu.1) hu.2
            rcases (by omega : j = 0 ∨ j = 1 ∨ j = 2 ∨ j = 3 ∨ j = 4) with rfl | rfl | rfl | rfl | rfl
            · exact absurd rfl n0
            · exact absurd rfl n1
            · exact absurd rfl n2
            · exact absurd rfl n3
            · rfl
          subst n4
          have ms := c_miss (d + 3) M1 J R c e nL xs D hs hC1.1 (by omega) (ISk_p q2 q3) (sv_pos_r hr (sv_out s (sv_rnd s b))) hi
          have mm := m_miss (d + 4) M2 J R c e nL xs D hs hM2.1 p4.1 (sv_pos_r hr (sv_out s (sv_rnd s b))) hi
          refine ⟨(iI (sv_mis s (sv_pos s (sv_rnd s b)) i)).toInt64, M1, M2, ?_, ?_, z1, z2⟩
          · rw [xX11_tapeTold]
            simp (disch := omega) only [px_bd_s, px_psh_s, px_psh_n, px_vb_s, px_ib_s, px_wb_s, px_bo_s, px_bo_n, Bool.cond_decide, cond_true, cond_false, ite_not, Bool.and_true, if_true, if_false, not_true_eq_false, not_false_eq_true, i10, eq_self, decide_true, decide_false, Bool.or_true, Bool.true_or, Bool.or_false, Bool.false_or, Bool.false_eq_true, eX11_tapeTold_0, xX7_tapeItem, eX7_tapeItem_0, eX7_tapeItem_16, eX7_tapeItem_94, hC.1.2.1, x1, x2, n0, n1, n2, n3, q1]
            simp only [px_bd_s, px_psh_s, px_psh_n, px_vb_s, px_ib_s, px_wb_s, px_bo_s, px_bo_n, Bool.cond_decide, cond_true, cond_false, ite_not, Bool.and_true, if_true, if_false, not_true_eq_false, not_false_eq_true, i10, eq_self, decide_true, decide_false, Bool.or_true, Bool.true_or, Bool.or_false, Bool.false_or, Bool.false_eq_true, eX7_tapeItem_94_4, ms, eX7_tapeItem_94_5, eX11_tapeTold_0, eX11_tapeTold_0_5]
          · rw [xX12_tapeTold]
            simp (disch := omega) only [px_bd_s, px_psh_s, px_psh_n, px_vb_s, px_ib_s, px_wb_s, px_bo_s, px_bo_n, Bool.cond_decide, cond_true, cond_false, ite_not, Bool.and_true, if_true, if_false, not_true_eq_false, not_false_eq_true, i10, eq_self, decide_true, decide_false, Bool.or_true, Bool.true_or, Bool.or_false, Bool.false_or, Bool.false_eq_true, eX12_tapeTold_0, eX12_tapeTold_0_7, eX12_tapeTold_23, eX12_tapeTold_0_12, eX12_tapeTold_27, eX12_tapeTold_27_2, eX12_tapeTold_103, eX12_tapeTold_88, eX12_tapeTold_80, eX12_tapeTold_72, eX12_tapeTold_64, eX12_tapeTold_103_3, eX12_tapeTold_101, eX12_tapeTold_102, c_in, hM1.1.2.1, x3, px_in_1 hu, p1, n0, n1, n2, n3]
            rw [show px_ex px_tab (d + 6) 174 [Value.ref 67, Value.int (nI i)] (hp M2 J R c e nL xs D) = _ from mm]
            simp only [px_bd_s, px_psh_s, px_psh_n, px_vb_s, px_ib_s, px_wb_s, px_bo_s, px_bo_n, Bool.cond_decide, cond_true, cond_false, ite_not, Bool.and_true, if_true, if_false, not_true_eq_false, not_false_eq_true, i10, eq_self, decide_true, decide_false, Bool.or_true, Bool.true_or, Bool.or_false, Bool.false_or, Bool.false_eq_true, eX12_tapeTold_0, eX12_tapeTold_0_7, eX12_tapeTold_23, eX12_tapeTold_0_12, eX12_tapeTold_27, eX12_tapeTold_27_2, eX12_tapeTold_103, eX12_tapeTold_88, eX12_tapeTold_80, eX12_tapeTold_72, eX12_tapeTold_64, eX12_tapeTold_103_3, eX12_tapeTold_101, eX12_tapeTold_102]
    · refine ⟨-4611686018427387904, M, M, ?_, ?_, ⟨s, b, r, h1, h2, h3⟩, frm.rf _ _ _⟩
      · have n0 : ¬ u = 0 := fun k => hu (by subst k; decide)
        have n1 : ¬ u = 1 := fun k => hu (by subst k; decide)
        have n2 : ¬ u = 2 := fun k => hu (by subst k; decide)
        have n3 : ¬ u = 3 := fun k => hu (by subst k; decide)
        have n4 : ¬ u = 4 := fun k => hu (by subst k; decide)
        rw [xX11_tapeTold]
        simp (disch := omega) only [px_bd_s, px_psh_s, px_psh_n, px_vb_s, px_ib_s, px_wb_s, px_bo_s, px_bo_n, Bool.cond_decide, cond_true, cond_false, ite_not, Bool.and_true, if_true, if_false, not_true_eq_false, not_false_eq_true, i10, eq_self, decide_true, decide_false, Bool.or_true, Bool.true_or, Bool.or_false, Bool.false_or, Bool.false_eq_true, eX11_tapeTold_0, eX11_tapeTold_0_5, xX7_tapeItem, eX7_tapeItem_0, eX7_tapeItem_16, eX7_tapeItem_105, hC.1.2.1, x1, x2, n0, n1, n2, n3, n4]
      · rw [xX12_tapeTold]
        simp only [px_bd_s, px_psh_s, px_psh_n, px_vb_s, px_ib_s, px_wb_s, px_bo_s, px_bo_n, Bool.cond_decide, cond_true, cond_false, ite_not, Bool.and_true, if_true, if_false, not_true_eq_false, not_false_eq_true, i10, eq_self, decide_true, decide_false, Bool.or_true, Bool.true_or, Bool.or_false, Bool.false_or, Bool.false_eq_true, eX12_tapeTold_0, eX12_tapeTold_0_7, eX12_tapeTold_23, eX12_tapeTold_0_12, eX12_tapeTold_27, eX12_tapeTold_27_2, eX12_tapeTold_103, eX12_tapeTold_88, eX12_tapeTold_80, eX12_tapeTold_72, eX12_tapeTold_64, eX12_tapeTold_103_3, eX12_tapeTold_101, eX12_tapeTold_102, c_in, hM.1.2.1, x3, px_in_00 hu]
theorem c_sq_l {s : Sv} {o : Nat → Bool} {p : Nat → Int × Int} {r : Nat} (hs : ISt s) (hI : ICt s M) (hr24 : r ≤ 24) (ho : ICo s r o M) (hp' : ICp s r p M) (hr : rng s 9092 p) : ∀ (g k : Nat) (o5 o6 : Option Value), k + g = St s → px_run (px_mk (kX7_squares (px_ex px_tab (d + 2)))) 10 ([some (Value.ref (14)), some (Value.int (nI r)), some (Value.long (iL (tsum s o p k))), none, some (Value.int (nI k)), o5, o6], [], (hp (M) (J) (R) (c) (e) nL xs (D))) = some (some (Value.long (iL (tsum s o p (St s)))), (hp (M) (J) (R) (c) (e) nL xs (D)))
  | 0, k, o5, o6, hk => by
    have h24 := hs.2.1
    rw [show k = St s from by omega, eX7_squares_10]
    simp (disch := omega) only [px_bd_s, px_psh_s, px_psh_n, px_vb_s, px_ib_s, px_wb_s, px_bo_s, px_bo_n, Bool.cond_decide, cond_true, cond_false, ite_not, Bool.and_true, if_true, if_false, not_true_eq_false, not_false_eq_true, i10, eq_self, decide_true, decide_false, Bool.or_true, Bool.true_or, Bool.or_false, Bool.false_or, Bool.false_eq_true, hI.2.1, nI_leI, Nat.le_refl, if_pos, eX7_squares_53]
  | g + 1, k, o5, o6, hk => by
    have h24 := hs.2.1
    have ih := c_sq_l hs hI hr24 ho hp' hr g (k + 1)
    rw [tsum_s] at ih
    have b1 := mis_b hs hr (k := k) (by omega)
    have x0 : ¬ nI (St s) ≤ nI k := fun q => by
      have := (nI_leI (by omega) (by omega)).mp q
      omega
    have io := c_isOut (d + 1) M J R c e nL xs D hs hr24 ho (j := k) (by omega)
    have ms := c_miss d M J R c e nL xs D hs hI hr24 hp' hr (k := k) (by omega)
    have eL := iI_L (z := sv_mis s p k) (by omega) (by omega)
    rw [eX7_squares_10]
    by_cases h : o k = true
    · rw [if_pos h, Int.add_zero] at ih
      simp only [px_bd_s, px_psh_s, px_psh_n, px_vb_s, px_ib_s, px_wb_s, px_bo_s, px_bo_n, Bool.cond_decide, cond_true, cond_false, ite_not, Bool.and_true, if_true, if_false, not_true_eq_false, not_false_eq_true, i10, eq_self, decide_true, decide_false, Bool.or_true, Bool.true_or, Bool.or_false, Bool.false_or, Bool.false_eq_true, hI.2.1, x0, io, h, eX7_squares_10_8, eX7_squares_47, zp1]
      exact ih _ _ (by omega)
    · rw [if_neg h] at ih
      simp only [px_bd_s, px_psh_s, px_psh_n, px_vb_s, px_ib_s, px_wb_s, px_bo_s, px_bo_n, Bool.cond_decide, cond_true, cond_false, ite_not, Bool.and_true, if_true, if_false, not_true_eq_false, not_false_eq_true, i10, eq_self, decide_true, decide_false, Bool.or_true, Bool.true_or, Bool.or_false, Bool.false_or, Bool.false_eq_true, hI.2.1, x0, io, h, eX7_squares_10_8, ms, eX7_squares_10_13, eX7_squares_47, zp1, eL, iL_mul, iL_add]
      exact ih _ _ (by omega)
theorem m_sum_l {s : Sv} {o : Nat → Bool} {p : Nat → Int × Int} (hs : ISt s) (hI : IMt s M) (ho : ∀ j, j < St s → M 76 j = if o j = true then 1 else 0) (hp' : IMp s p M) (hr : rng s 9092 p) : ∀ (g k : Nat) (o4 o5 : Option Value), k + g = St s → px_run (px_mk (kX12_sum (px_ex px_tab (d + 2)))) 8 ([some (Value.ref (67)), some (Value.long (iL (tsum s o p k))), none, some (Value.int (nI k)), o4, o5], [], (hp (M) (J) (R) (c) (e) nL xs (D))) = some (some (Value.long (iL (tsum s o p (St s)))), (hp (M) (J) (R) (c) (e) nL xs (D)))
  | 0, k, o4, o5, hk => by
    have h24 := hs.2.1
    rw [show k = St s from by omega, eX12_sum_8]
    simp (disch := omega) only [px_bd_s, px_psh_s, px_psh_n, px_vb_s, px_ib_s, px_wb_s, px_bo_s, px_bo_n, Bool.cond_decide, cond_true, cond_false, ite_not, Bool.and_true, if_true, if_false, not_true_eq_false, not_false_eq_true, i10, eq_self, decide_true, decide_false, Bool.or_true, Bool.true_or, Bool.or_false, Bool.false_or, Bool.false_eq_true, hI.2.1, nI_leI, Nat.le_refl, if_pos, eX12_sum_51]
  | g + 1, k, o4, o5, hk => by
    have h24 := hs.2.1
    have ih := m_sum_l hs hI ho hp' hr g (k + 1)
    rw [tsum_s] at ih
    have b1 := mis_b hs hr (k := k) (by omega)
    have x0 : ¬ nI (St s) ≤ nI k := fun q => by
      have := (nI_leI (by omega) (by omega)).mp q
      omega
    have mm := m_miss d M J R c e nL xs D hs hI hp' hr (k := k) (by omega)
    have eL := iI_L (z := sv_mis s p k) (by omega) (by omega)
    have hk' := ho k (by omega)
    rw [eX12_sum_8]
    by_cases h : o k = true
    · rw [if_pos h, Int.add_zero] at ih
      simp (disch := omega) only [px_bd_s, px_psh_s, px_psh_n, px_vb_s, px_ib_s, px_wb_s, px_bo_s, px_bo_n, Bool.cond_decide, cond_true, cond_false, ite_not, Bool.and_true, if_true, if_false, not_true_eq_false, not_false_eq_true, i10, eq_self, decide_true, decide_false, Bool.or_true, Bool.true_or, Bool.or_false, Bool.false_or, Bool.false_eq_true, hI.2.1, x0, px_inbT, nI_clamp, hk', h, eX12_sum_35, zp1, show (0 : Int64) * 0 = 0 from rfl, Int64.add_zero]
      exact ih _ _ (by omega)
    · rw [if_neg h] at ih
      simp (disch := omega) only [px_bd_s, px_psh_s, px_psh_n, px_vb_s, px_ib_s, px_wb_s, px_bo_s, px_bo_n, Bool.cond_decide, cond_true, cond_false, ite_not, Bool.and_true, if_true, if_false, not_true_eq_false, not_false_eq_true, i10, eq_self, decide_true, decide_false, Bool.or_true, Bool.true_or, Bool.or_false, Bool.false_or, Bool.false_eq_true, hI.2.1, x0, px_inbT, nI_clamp, hk', h, eX12_sum_29, mm, eX12_sum_29_3, eX12_sum_35, zp1, eL, iL_mul, iL_add]
      exact ih _ _ (by omega)
theorem t_sum (hI : ISv M) : ∃ w M1 M2, px_ex px_tab (d + 7) 128 [Value.ref (13)] (hp (M) (J) (R) (c) (e) nL xs (D)) = some (some (Value.long (w)), (hp (M1) (J) (R) (c) (e) nL xs (D))) ∧ px_ex px_tab (d + 7) 181 [Value.ref (67)] (hp (M1) (J) (R) (c) (e) nL xs (D)) = some (some (Value.long (w)), (hp (M2) (J) (R) (c) (e) nL xs (D))) ∧ ISv M2 ∧ frm [14, 15, 16, 17, 18, 19, 20, 21, 22, 23, 24, 25, 26, 27, 68, 69, 70, 71, 72, 73, 74, 75, 76] [0, 6, 11, 12] M M2 := by
  obtain ⟨s, b, r, h1, h2, h3⟩ := hI
  obtain ⟨hs, hr, b1, b2, hC, hM⟩ := ISd_a h1
  have h8 := hs.1
  have h24 := hs.2.1
  obtain ⟨M1, r1, q1, q2, q3, q5, q6⟩ := c_fitted d M J R c e nL xs D hs hr b2 hC h2
  have hM1 := hM.fr q5 (by decide) (by decide)
  have hC1 := hC.fr q5 q6
  obtain ⟨M2, p1, p2, p3, p4⟩ := m_knows d M1 J R c e nL xs D b2 hs hM1.1 hM1.2.1 hr hM1.2.2 (ISm_fr q5 h3)
  obtain ⟨z1, z2⟩ := ISv_f hs hr b1 b2 hC hM q2 q5 q6 p2 p3 p4
  have hM2 := hM1.fr p2 (by decide) (by decide)
  have rb := sv_rnd_b s b
  have l1 := c_sq_l (d + 3) M1 J R c e nL xs D hs hC1.1 (by omega) (ISk_o hs q2 q3) (ISk_p q2 q3) (sv_pos_r hr (sv_out s (sv_rnd s b))) (St s) 0 none none (by omega)
  have l2 := m_sum_l (d + 4) M2 J R c e nL xs D hs hM2.1 p4.2 p4.1 (sv_pos_r hr (sv_out s (sv_rnd s b))) (St s) 0 none none (by omega)
  refine ⟨iL (tsum s (sv_out s (sv_rnd s b)) (sv_pos s (sv_rnd s b)) (St s)), M1, M2, ?_, ?_, z1, z2⟩
  · rw [xX11_sum]
    simp only [px_bd_s, px_psh_s, px_psh_n, px_vb_s, px_ib_s, px_wb_s, px_bo_s, px_bo_n, Bool.cond_decide, cond_true, cond_false, ite_not, Bool.and_true, if_true, if_false, not_true_eq_false, not_false_eq_true, i10, eq_self, decide_true, decide_false, Bool.or_true, Bool.true_or, Bool.or_false, Bool.false_or, Bool.false_eq_true, eX11_sum_0, xX7_squares, eX7_squares_0, q1, eX7_squares_0_2]
    rw [show px_run (px_mk (kX7_squares (px_ex px_tab (d + 5)))) 10 ([some (Value.ref 14), some (Value.int (nI (sv_rnd s b))), some (Value.long 0), none, some (Value.int 0), none, none], [], hp M1 J R c e nL xs D) = _ from l1]
    simp only [px_bd_s, px_psh_s, px_psh_n, px_vb_s, px_ib_s, px_wb_s, px_bo_s, px_bo_n, Bool.cond_decide, cond_true, cond_false, ite_not, Bool.and_true, if_true, if_false, not_true_eq_false, not_false_eq_true, i10, eq_self, decide_true, decide_false, Bool.or_true, Bool.true_or, Bool.or_false, Bool.false_or, Bool.false_eq_true, eX11_sum_0, eX11_sum_0_3]
  · rw [xX12_sum]
    simp only [px_bd_s, px_psh_s, px_psh_n, px_vb_s, px_ib_s, px_wb_s, px_bo_s, px_bo_n, Bool.cond_decide, cond_true, cond_false, ite_not, Bool.and_true, if_true, if_false, not_true_eq_false, not_false_eq_true, i10, eq_self, decide_true, decide_false, Bool.or_true, Bool.true_or, Bool.or_false, Bool.false_or, Bool.false_eq_true, eX12_sum_0, p1, eX12_sum_0_2]
    exact l2
theorem m_c12_l {s : Sv} {o : Nat → Bool} (hs : ISt s) (hI : IMt s M) (ho : ∀ j, j < St s → M 76 j = if o j = true then 1 else 0) : ∀ (g k : Nat) (o1 : Option Value), k + g = St s → px_run (px_mk (kX12_count (px_ex px_tab d))) 165 ([some (Value.ref (67)), o1, some (Value.int (nI (cntB o k))), some (Value.int (nI k))], [], (hp (M) (J) (R) (c) (e) nL xs (D))) = some (some (Value.int (nI (cntB o (St s)))), (hp (M) (J) (R) (c) (e) nL xs (D)))
  | 0, k, o1, hk => by
    have h24 := hs.2.1
    rw [show k = St s from by omega, eX12_count_165]
    simp (disch := omega) only [px_bd_s, px_psh_s, px_psh_n, px_vb_s, px_ib_s, px_wb_s, px_bo_s, px_bo_n, Bool.cond_decide, cond_true, cond_false, ite_not, Bool.and_true, if_true, if_false, not_true_eq_false, not_false_eq_true, i10, eq_self, decide_true, decide_false, Bool.or_true, Bool.true_or, Bool.or_false, Bool.false_or, Bool.false_eq_true, hI.2.1, nI_leI, Nat.le_refl, if_pos, eX12_count_196]
  | g + 1, k, o1, hk => by
    have h24 := hs.2.1
    have ih := m_c12_l hs hI ho g (k + 1) none (by omega)
    rw [cntB_s] at ih
    have x0 : ¬ nI (St s) ≤ nI k := fun q => by
      have := (nI_leI (by omega) (by omega)).mp q
      omega
    have hk' := ho k (by omega)
    rw [eX12_count_165]
    by_cases h : o k = true
    · rw [if_pos h] at ih
      simp (disch := omega) only [px_bd_s, px_psh_s, px_psh_n, px_vb_s, px_ib_s, px_wb_s, px_bo_s, px_bo_n, Bool.cond_decide, cond_true, cond_false, ite_not, Bool.and_true, if_true, if_false, not_true_eq_false, not_false_eq_true, i10, eq_self, decide_true, decide_false, Bool.or_true, Bool.true_or, Bool.or_false, Bool.false_or, Bool.false_eq_true, hI.2.1, x0, px_inbT, nI_clamp, hk', h, eX12_count_188, zp1]
      exact ih
    · rw [if_neg h] at ih
      simp (disch := omega) only [px_bd_s, px_psh_s, px_psh_n, px_vb_s, px_ib_s, px_wb_s, px_bo_s, px_bo_n, Bool.cond_decide, cond_true, cond_false, ite_not, Bool.and_true, if_true, if_false, not_true_eq_false, not_false_eq_true, i10, eq_self, decide_true, decide_false, Bool.or_true, Bool.true_or, Bool.or_false, Bool.false_or, Bool.false_eq_true, hI.2.1, x0, px_inbT, nI_clamp, hk', h, eX12_count_187, eX12_count_188, zp1, Int32.add_zero]
      exact ih
end S78
section S78b
variable (d : Nat) (M : Nat → Nat → Int32) (J : Nat → Nat → Int64) (R : Nat → Nat → Option Nat) (nL : Nat) (xs : Nat → Int32) (D : px_H)
theorem t_c12_38 (hI : ISv M) : ∃ w M1 M2, px_ex px_tab (d + 7) 159 [Value.ref (13), Value.int (12)] (hp (M) (J) (R) (38) (43) nL xs (D)) = some (some (Value.int (w)), (hp (M1) (J) (R) (38) (43) nL xs (D))) ∧ px_ex px_tab (d + 7) 250 [Value.ref (67), Value.int (12)] (hp (M1) (J) (R) (38) (43) nL xs (D)) = some (some (Value.int (w)), (hp (M2) (J) (R) (38) (43) nL xs (D))) ∧ ISv M2 ∧ frm [14, 15, 16, 17, 18, 19, 20, 21, 22, 23, 24, 25, 26, 27, 68, 69, 70, 71, 72, 73, 74, 75, 76] [0, 6, 11, 12] M M2 := by
  obtain ⟨s, b, r, h1, h2, h3⟩ := hI
  obtain ⟨hs, hr, b1, b2, hC, hM⟩ := ISd_a h1
  have h8 := hs.1
  have h24 := hs.2.1
  obtain ⟨M1, r1, q1, q2, q3, q5, q6⟩ := c_fitted (d + 1) M J R 38 43 nL xs D hs hr b2 hC h2
  have hM1 := hM.fr q5 (by decide) (by decide)
  obtain ⟨M2, p1, p2, p3, p4⟩ := m_knows d M1 J R 38 43 nL xs D b2 hs hM1.1 hM1.2.1 hr hM1.2.2 (ISm_fr q5 h3)
  obtain ⟨z1, z2⟩ := ISv_f hs hr b1 b2 hC hM q2 q5 q6 p2 p3 p4
  have hM2 := hM1.fr p2 (by decide) (by decide)
  have rb := sv_rnd_b s b
  have l2 := m_c12_l (d + 6) M2 J R 38 43 nL xs D hs hM2.1 p4.2 (St s) 0 none (by omega)
  rw [sv_out_n s rb] at l2
  refine ⟨nI (sv_rnd s b), M1, M2, ?_, ?_, z1, z2⟩
  · rw [xX11_count, eX11_count_38_0]
    simp only [show decide ((12 : Int32) = 0) = false from rfl, show decide ((12 : Int32) = 1) = false from rfl, show decide ((12 : Int32) = 2) = false from rfl, show decide ((12 : Int32) = 3) = false from rfl, show decide ((12 : Int32) = 4) = false from rfl, show decide ((12 : Int32) = 5) = false from rfl, show decide ((12 : Int32) = 6) = false from rfl, show decide ((12 : Int32) = 7) = false from rfl, show decide ((12 : Int32) = 8) = false from rfl, show decide ((12 : Int32) = 9) = false from rfl, show decide ((12 : Int32) = 10) = false from rfl, show decide ((12 : Int32) = 11) = false from rfl, show decide ((12 : Int32) = 12) = true from rfl, decide_true, cond_false, cond_true, eX11_count_38_167, q1, px_bd_s, px_psh_s, eX11_count_38_167_3]
  · rw [xX12_count, eX12_count_0]
    simp only [show decide ((12 : Int32) = 0) = false from rfl, show decide ((12 : Int32) = 1) = false from rfl, show decide ((12 : Int32) = 2) = false from rfl, show decide ((12 : Int32) = 3) = false from rfl, show decide ((12 : Int32) = 4) = false from rfl, show decide ((12 : Int32) = 5) = false from rfl, show decide ((12 : Int32) = 6) = false from rfl, show decide ((12 : Int32) = 7) = false from rfl, show decide ((12 : Int32) = 8) = false from rfl, show decide ((12 : Int32) = 9) = false from rfl, show decide ((12 : Int32) = 10) = false from rfl, show decide ((12 : Int32) = 11) = false from rfl, show decide ((12 : Int32) = 12) = true from rfl, decide_true, cond_false, cond_true, eX12_count_159, p1, px_bd_s, px_psh_n, eX12_count_159_2]
    exact l2
theorem t_c12_43 (hI : ISv M) : ∃ w M1 M2, px_ex px_tab (d + 7) 159 [Value.ref (13), Value.int (12)] (hp (M) (J) (R) (43) (38) nL xs (D)) = some (some (Value.int (w)), (hp (M1) (J) (R) (43) (38) nL xs (D))) ∧ px_ex px_tab (d + 7) 250 [Value.ref (67), Value.int (12)] (hp (M1) (J) (R) (43) (38) nL xs (D)) = some (some (Value.int (w)), (hp (M2) (J) (R) (43) (38) nL xs (D))) ∧ ISv M2 ∧ frm [14, 15, 16, 17, 18, 19, 20, 21, 22, 23, 24, 25, 26, 27, 68, 69, 70, 71, 72, 73, 74, 75, 76] [0, 6, 11, 12] M M2 := by
  obtain ⟨s, b, r, h1, h2, h3⟩ := hI
  obtain ⟨hs, hr, b1, b2, hC, hM⟩ := ISd_a h1
  have h8 := hs.1
  have h24 := hs.2.1
  obtain ⟨M1, r1, q1, q2, q3, q5, q6⟩ := c_fitted (d + 1) M J R 43 38 nL xs D hs hr b2 hC h2
  have hM1 := hM.fr q5 (by decide) (by decide)
  obtain ⟨M2, p1, p2, p3, p4⟩ := m_knows d M1 J R 43 38 nL xs D b2 hs hM1.1 hM1.2.1 hr hM1.2.2 (ISm_fr q5 h3)
  obtain ⟨z1, z2⟩ := ISv_f hs hr b1 b2 hC hM q2 q5 q6 p2 p3 p4
  have hM2 := hM1.fr p2 (by decide) (by decide)
  have rb := sv_rnd_b s b
  have l2 := m_c12_l (d + 6) M2 J R 43 38 nL xs D hs hM2.1 p4.2 (St s) 0 none (by omega)
  rw [sv_out_n s rb] at l2
  refine ⟨nI (sv_rnd s b), M1, M2, ?_, ?_, z1, z2⟩
  · rw [xX11_count, eX11_count_43_0]
    simp only [show decide ((12 : Int32) = 0) = false from rfl, show decide ((12 : Int32) = 1) = false from rfl, show decide ((12 : Int32) = 2) = false from rfl, show decide ((12 : Int32) = 3) = false from rfl, show decide ((12 : Int32) = 4) = false from rfl, show decide ((12 : Int32) = 5) = false from rfl, show decide ((12 : Int32) = 6) = false from rfl, show decide ((12 : Int32) = 7) = false from rfl, show decide ((12 : Int32) = 8) = false from rfl, show decide ((12 : Int32) = 9) = false from rfl, show decide ((12 : Int32) = 10) = false from rfl, show decide ((12 : Int32) = 11) = false from rfl, show decide ((12 : Int32) = 12) = true from rfl, decide_true, cond_false, cond_true, eX11_count_43_167, q1, px_bd_s, px_psh_s, eX11_count_43_167_3]
  · rw [xX12_count, eX12_count_0]
    simp only [show decide ((12 : Int32) = 0) = false from rfl, show decide ((12 : Int32) = 1) = false from rfl, show decide ((12 : Int32) = 2) = false from rfl, show decide ((12 : Int32) = 3) = false from rfl, show decide ((12 : Int32) = 4) = false from rfl, show decide ((12 : Int32) = 5) = false from rfl, show decide ((12 : Int32) = 6) = false from rfl, show decide ((12 : Int32) = 7) = false from rfl, show decide ((12 : Int32) = 8) = false from rfl, show decide ((12 : Int32) = 9) = false from rfl, show decide ((12 : Int32) = 10) = false from rfl, show decide ((12 : Int32) = 11) = false from rfl, show decide ((12 : Int32) = 12) = true from rfl, decide_true, cond_false, cond_true, eX12_count_159, p1, px_bd_s, px_psh_n, eX12_count_159_2]
    exact l2
end S78b
