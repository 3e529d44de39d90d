/-! PART 85: READING: one -/
theorem mz2 {t : Nat} (ht : t ≤ 61) : nI (mtk t) = (1 : Int32) ↔ t = 2 := tk_m ht 2 (by decide)
theorem mz3 {t : Nat} (ht : t ≤ 61) : nI (mtk t) = (3 : Int32) ↔ t = 3 := tk_m ht 3 (by decide)
theorem mz45 {t : Nat} (ht : t ≤ 61) : nI (mtk t) = (45 : Int32) ↔ t = 45 := tk_m ht 45 (by decide)
theorem mz40 {t : Nat} (ht : t ≤ 61) : nI (mtk t) = (40 : Int32) ↔ t = 40 := tk_m ht 40 (by decide)
theorem mz41 {t : Nat} (ht : t ≤ 61) : nI (mtk t) = (41 : Int32) ↔ t = 41 := tk_m ht 41 (by decide)
theorem mz42 {t : Nat} (ht : t ≤ 61) : nI (mtk t) = (42 : Int32) ↔ t = 42 := tk_m ht 42 (by decide)
theorem mz43 {t : Nat} (ht : t ≤ 61) : nI (mtk t) = (43 : Int32) ↔ t = 43 := tk_m ht 43 (by decide)
theorem mz59 {t : Nat} (ht : t ≤ 61) : nI (mtk t) = (59 : Int32) ↔ t = 59 := tk_m ht 59 (by decide)
theorem mz60 {t : Nat} (ht : t ≤ 61) : nI (mtk t) = (60 : Int32) ↔ t = 60 := tk_m ht 60 (by decide)
theorem mz61 {t : Nat} (ht : t ≤ 61) : nI (mtk t) = (61 : Int32) ↔ t = 61 := tk_m ht 61 (by decide)
theorem mz10 {t : Nat} (ht : t ≤ 61) : nI (mtk t) = (300 : Int32) ↔ t = 10 := tk_m ht 10 (by decide)
theorem mz11 {t : Nat} (ht : t ≤ 61) : nI (mtk t) = (301 : Int32) ↔ t = 11 := tk_m ht 11 (by decide)
theorem mz12 {t : Nat} (ht : t ≤ 61) : nI (mtk t) = (302 : Int32) ↔ t = 12 := tk_m ht 12 (by decide)
theorem mz13 {t : Nat} (ht : t ≤ 61) : nI (mtk t) = (303 : Int32) ↔ t = 13 := tk_m ht 13 (by decide)
theorem mz0 {t : Nat} (ht : t ≤ 61) : nI (mtk t) = (0 : Int32) ↔ t = 0 := tk_m ht 0 (by decide)
theorem zs11 {v : Nat} (hv : v < 2 ^ 31) : (nI v = (11 : Int32)) ↔ v = 11 := nI_eq (b := 11) hv (by decide)
theorem zs12 {v : Nat} (hv : v < 2 ^ 31) : (nI v = (12 : Int32)) ↔ v = 12 := nI_eq (b := 12) hv (by decide)
theorem zs13 {v : Nat} (hv : v < 2 ^ 31) : (nI v = (13 : Int32)) ↔ v = 13 := nI_eq (b := 13) hv (by decide)
section S85
variable (J : Nat → Nat → Int64) (R : Nat → Nat → Option Nat) (nL : Nat) (xs : Nat → Int32) (D : px_H)
theorem p_one_38 {T : Nat → Nat} {n kc km o : Nat} (ho : o ≤ 5) (hkc : 5 ≤ kc) (hkm : 5 ≤ km) (h1 : o < 5 → ∃ kc1 km1, kc1 + 2 ≤ kc ∧ km1 + 1 ≤ km ∧ XP J R 38 43 nL xs D T n kc1 km1 58 225 (o + 1)) (h2 : o < 5 → ∃ kc1 km1, kc1 + 2 ≤ kc ∧ km1 + 1 ≤ km ∧ XP J R 38 43 nL xs D T n kc1 km1 52 220 (o + 1)) : XP J R 38 43 nL xs D T n kc km 58 225 o := by
  intro S hV
  obtain ⟨v1, v2, v3, t61, v5, v6, v7⟩ := id hV
  have o5 : (nI o < 5) ↔ o < 5 := nI_ltI (b := 5) (by omega) (by decide)
  by_cases t23 : Pt S = 2 ∨ Pt S = 3
  · have hb := v5 (by omega)
    refine Or.inl ⟨nx T n (em S (if Pt S = 2 then 0 else 1) (Pv S)), PG_0 hV (by omega) (by split <;> omega) _, ?_, ?_⟩
    · intro dc M hd hC
      obtain ⟨d, rfl⟩ : ∃ d', dc = d' + 1 := ⟨dc - 1, by omega⟩
      obtain ⟨M1, a1, a2, a3⟩ := c_em_38 J R nL xs D (d := d) (by omega) (by omega) hC (if Pt S = 2 then 0 else 1) (Pv S)
      obtain ⟨M2, b1, b2, b3⟩ := c_nx_38 J R nL xs D (d := d) (by omega) (S := em S (if Pt S = 2 then 0 else 1) (Pv S)) v2 v3 a2
      refine ⟨M2, ?_, b2, a3.tr b3⟩
      have h6 : M 37 6 = nI (Pt S) := hC.2.1.2.2.1
      have h7 : M 37 7 = Pv S := hC.2.1.2.2.2 t23
      rw [xX5_readOne, eX5_readOne_38_0, h6]
      by_cases t2 : Pt S = 2
      · rw [if_pos t2] at a1
        have a1' : px_ex px_tab (d) 40 [Value.ref (43), Value.int (0), Value.int (Pv S)] (hp (M) (J) (R) (38) (43) nL xs (D)) = some (none, (hp (M1) (J) (R) (38) (43) nL xs (D))) := a1
        simp (disch := omega) only [px_bd_s, px_psh_s, px_psh_n, px_vb_s, px_ib_s, px_wb_s, px_bo_s, px_bo_n, Bool.cond_decide, cond_true, cond_false, ite_not, Bool.and_true, if_true, if_false, not_true_eq_false, not_false_eq_true, i10, eq_self, decide_true, decide_false, Bool.or_true, Bool.true_or, Bool.or_false, Bool.false_or, Bool.false_eq_true, zs2, t2, eX5_readOne_38_16, h6, eX5_readOne_38_33, h7, a1', eX5_readOne_38_33_3, b1, eX5_readOne_38_33_5]
      · have t3 : Pt S = 3 := t23.resolve_left t2
        rw [if_neg t2] at a1
        have a1' : px_ex px_tab (d) 40 [Value.ref (43), Value.int (1), Value.int (Pv S)] (hp (M) (J) (R) (38) (43) nL xs (D)) = some (none, (hp (M1) (J) (R) (38) (43) nL xs (D))) := a1
        simp (disch := omega) only [px_bd_s, px_psh_s, px_psh_n, px_vb_s, px_ib_s, px_wb_s, px_bo_s, px_bo_n, Bool.cond_decide, cond_true, cond_false, ite_not, Bool.and_true, if_true, if_false, not_true_eq_false, not_false_eq_true, i10, eq_self, decide_true, decide_false, Bool.or_true, Bool.true_or, Bool.or_false, Bool.false_or, Bool.false_eq_true, zs2, zs3, t2, t3, eX5_readOne_38_16, h6, eX5_readOne_38_32, eX5_readOne_38_33, h7, a1', eX5_readOne_38_33_3, b1, eX5_readOne_38_33_5, show ¬ (3 : Nat) = 2 from by decide]
    · intro c e dm M hd hC h61 h62
      obtain ⟨d, rfl⟩ : ∃ d', dm = d' + 1 := ⟨dm - 1, by omega⟩
      obtain ⟨M1, a1, a2, a3, a4, a5⟩ := m_em J R nL xs D c e (d := d) (by omega) (by omega) hC (if Pt S = 2 then 0 else 1) (Pv S)
      obtain ⟨M2, b1, b2, b3, b4, b5⟩ := m_nx J R nL xs D c e (d := d) (by omega) (S := em S (if Pt S = 2 then 0 else 1) (Pv S)) v2 v3 a2
      refine ⟨M2, ?_, b2, a3.tr b3, b4.trans (a4.trans h61), b5.trans (a5.trans h62)⟩
      have h6 : M 67 59 = nI (mtk (Pt S)) := hC.2.2.1.2.2.1
      have h7 : M 67 60 = Pv S := hC.2.2.1.2.2.2 t23
      have w := m_wr_n J R nL xs D c e (d := d) (by omega) h61
      rw [xX12_one, eX12_one_0, w]
      by_cases t2 : Pt S = 2
      · rw [if_pos t2] at a1
        have a1' : px_ex px_tab (d) 218 [Value.ref (67), Value.int (0), Value.int (Pv S)] (hp (M) (J) (R) (c) (e) nL xs (D)) = some (none, (hp (M1) (J) (R) (c) (e) nL xs (D))) := a1
        simp (disch := omega) only [px_bd_s, px_psh_s, px_psh_n, px_vb_s, px_ib_s, px_wb_s, px_bo_s, px_bo_n, Bool.cond_decide, cond_true, cond_false, ite_not, Bool.and_true, if_true, if_false, not_true_eq_false, not_false_eq_true, i10, eq_self, decide_true, decide_false, Bool.or_true, Bool.true_or, Bool.or_false, Bool.false_or, Bool.false_eq_true, eX12_one_0_2, eX12_one_8, h6, mz2, t2, eX12_one_24, eX12_one_38, h7, a1', eX12_one_38_3, b1, eX12_one_38_5, eX12_one_129]
      · have t3 : Pt S = 3 := t23.resolve_left t2
        rw [if_neg t2] at a1
        have a1' : px_ex px_tab (d) 218 [Value.ref (67), Value.int (1), Value.int (Pv S)] (hp (M) (J) (R) (c) (e) nL xs (D)) = some (none, (hp (M1) (J) (R) (c) (e) nL xs (D))) := a1
        simp (disch := omega) only [px_bd_s, px_psh_s, px_psh_n, px_vb_s, px_ib_s, px_wb_s, px_bo_s, px_bo_n, Bool.cond_decide, cond_true, cond_false, ite_not, Bool.and_true, if_true, if_false, not_true_eq_false, not_false_eq_true, i10, eq_self, decide_true, decide_false, Bool.or_true, Bool.true_or, Bool.or_false, Bool.false_or, Bool.false_eq_true, eX12_one_0_2, eX12_one_8, h6, mz2, mz3, t2, t3, eX12_one_24, eX12_one_37, eX12_one_38, h7, a1', eX12_one_38_3, b1, eX12_one_38_5, eX12_one_129, show ¬ (3 : Nat) = 2 from by decide]
  · have n2 : ¬ Pt S = 2 := fun q => t23 (Or.inl q)
    have n3 : ¬ Pt S = 3 := fun q => t23 (Or.inr q)
    by_cases tn : Pt S = 45
    · have hb := v5 (by omega)
      by_cases o4 : o < 5
      · obtain ⟨kc1, km1, k1, k2, hX⟩ := h1 o4
        rcases hX (nx T n S) (nx_V T hV).1 with ⟨S2, g, xc, xm⟩ | ⟨b, hb2, xc, xm⟩
        · obtain ⟨g1, g2⟩ := PG_1 hV (by omega) g (j := 10) (Or.inr rfl)
          have gV := g.1
          have g160 : Pn S2 < 160 := by have := gV.1; have := gV.2.1; omega
          refine Or.inl ⟨em S2 10 0, g1, ?_, ?_⟩
          · intro dc M hd hC
            obtain ⟨d, rfl⟩ : ∃ d', dc = d' + 2 := ⟨dc - 2, by omega⟩
            obtain ⟨M1, a1, a2, a3⟩ := c_nx_38 J R nL xs D (d := d) (by omega) v2 v3 hC
            obtain ⟨M2, b1, b2, b3⟩ := xc d M1 (by omega) a2
            obtain ⟨M3, c1, c2, c3⟩ := c_em_38 J R nL xs D (d := d) (by omega) g160 b2 10 0
            have c1' : px_ex px_tab (d) 40 [Value.ref (43), Value.int (2), Value.int (0)] (hp (M2) (J) (R) (38) (43) nL xs (D)) = some (none, (hp (M3) (J) (R) (38) (43) nL xs (D))) := c1
            refine ⟨M3, ?_, c2, (a3.tr b3).tr c3⟩
            have h6 : M 37 6 = nI (Pt S) := hC.2.1.2.2.1
            rw [xX5_readOne, eX5_readOne_38_0, h6]
            simp (disch := omega) only [px_bd_s, px_psh_s, px_psh_n, px_vb_s, px_ib_s, px_wb_s, px_bo_s, px_bo_n, Bool.cond_decide, cond_true, cond_false, ite_not, Bool.and_true, if_true, if_false, not_true_eq_false, not_false_eq_true, i10, eq_self, decide_true, decide_false, Bool.or_true, Bool.true_or, Bool.or_false, Bool.false_or, Bool.false_eq_true, zs2, zs3, n2, n3, eX5_readOne_38_46, h6, zs45, tn, eX5_readOne_38_64, o5, o4, eX5_readOne_38_71, zp1, xX5_readNegated, eX5_readNegated_38_0, a1, eX5_readNegated_38_0_2, b1, eX5_readNegated_38_0_5, c1', eX5_readNegated_38_0_11, eX5_readOne_38_71_9, eX5_readOne_38_97, show ¬ (45 : Nat) = 2 from by decide, show ¬ (45 : Nat) = 3 from by decide]
          · intro c e dm M hd hC h61 h62
            obtain ⟨d, rfl⟩ : ∃ d', dm = d' + 1 := ⟨dm - 1, by omega⟩
            obtain ⟨M1, a1, a2, a3, a4, a5⟩ := m_opn J R nL xs D c e (d := d) (by omega) o4 hV hC h61 h62
            obtain ⟨M2, b1, b2, b3, b4, b5⟩ := xm c e d M1 (by omega) a2 a4 a5
            have hM3 : MP T n S2 (px_uR M2 67 (upd (M2 67) 62 (nI o))) := b2
            obtain ⟨M3, c1, c2, c3, c4, c5⟩ := m_em J R nL xs D c e (d := d) (by omega) g160 hM3 10 0
            have c1' : px_ex px_tab (d) 218 [Value.ref (67), Value.int (10), Value.int (0)] (hp (px_uR M2 67 (upd (M2 67) 62 (nI o))) (J) (R) (c) (e) nL xs (D)) = some (none, (hp (M3) (J) (R) (c) (e) nL xs (D))) := c1
            refine ⟨M3, ?_, c2, ((a3.tr b3).tr ((MF.rf M2).k 62 (by decide) (nI o))).tr c3, c4.trans b4, c5⟩
            have h6 : M 67 59 = nI (mtk (Pt S)) := hC.2.2.1.2.2.1
            have w := m_wr_n J R nL xs D c e (d := d) (by omega) h61
            have eo : nI (o + 1) - 1 = nI o := pk_sub (a := o + 1) (b := 1) (by omega)
            rw [xX12_one, eX12_one_0, w]
            simp (disch := omega) only [px_bd_s, px_psh_s, px_psh_n, px_vb_s, px_ib_s, px_wb_s, px_bo_s, px_bo_n, Bool.cond_decide, cond_true, cond_false, ite_not, Bool.and_true, if_true, if_false, not_true_eq_false, not_false_eq_true, i10, eq_self, decide_true, decide_false, Bool.or_true, Bool.true_or, Bool.or_false, Bool.false_or, Bool.false_eq_true, eX12_one_0_2, eX12_one_8, h6, mz2, mz3, n2, n3, eX12_one_52, mz45, tn, a1, eX12_one_52_6, b1, eX12_one_52_8, b5, eo, c1', eX12_one_52_18, eX12_one_129, show ¬ (45 : Nat) = 2 from by decide, show ¬ (45 : Nat) = 3 from by decide]
        · refine Or.inr ⟨b, hb2, ?_, ?_⟩
          · intro dc M hd hC
            obtain ⟨d, rfl⟩ : ∃ d', dc = d' + 2 := ⟨dc - 2, by omega⟩
            obtain ⟨M1, a1, a2, a3⟩ := c_nx_38 J R nL xs D (d := d) (by omega) v2 v3 hC
            obtain ⟨M2, b1, b2, b3⟩ := xc d M1 (by omega) a2
            obtain ⟨M3, c1, c2, c3⟩ := c_em_f_38 J R nL xs D (d := d) (by omega) b2 2 0
            refine ⟨M3, ?_, c2, (a3.tr b3).tr c3⟩
            have h6 : M 37 6 = nI (Pt S) := hC.2.1.2.2.1
            rw [xX5_readOne, eX5_readOne_38_0, h6]
            simp (disch := omega) only [px_bd_s, px_psh_s, px_psh_n, px_vb_s, px_ib_s, px_wb_s, px_bo_s, px_bo_n, Bool.cond_decide, cond_true, cond_false, ite_not, Bool.and_true, if_true, if_false, not_true_eq_false, not_false_eq_true, i10, eq_self, decide_true, decide_false, Bool.or_true, Bool.true_or, Bool.or_false, Bool.false_or, Bool.false_eq_true, zs2, zs3, n2, n3, eX5_readOne_38_46, h6, zs45, tn, eX5_readOne_38_64, o5, o4, eX5_readOne_38_71, zp1, xX5_readNegated, eX5_readNegated_38_0, a1, eX5_readNegated_38_0_2, b1, eX5_readNegated_38_0_5, c1, eX5_readNegated_38_0_11, eX5_readOne_38_71_9, eX5_readOne_38_97, show ¬ (45 : Nat) = 2 from by decide, show ¬ (45 : Nat) = 3 from by decide]
          · intro c e dm M hd hC h61 h62
            obtain ⟨d, rfl⟩ : ∃ d', dm = d' + 1 := ⟨dm - 1, by omega⟩
            obtain ⟨M1, a1, a2, a3, a4, a5⟩ := m_opn J R nL xs D c e (d := d) (by omega) o4 hV hC h61 h62
            obtain ⟨M2, N, b1, b2, b2', b3, b4, b5⟩ := xm c e d M1 (by omega) a2 a4 a5
            have nb := (nx_V T hV).2
            have e0 : Pn (nx T n S) = Pn S := rfl
            rw [e0] at b2'
            have hM3 : MN N (px_uR M2 67 (upd (M2 67) 62 (nI o))) := b2
            obtain ⟨M3, c1, c2, c3, c4, c5⟩ := m_em_f J R nL xs D c e (d := d) (by omega) (show N < 160 by omega) hM3 10 0
            refine ⟨M3, N + 1, ?_, c2, by omega, ((a3.tr b3).tr ((MF.rf M2).k 62 (by decide) (nI o))).tr c3, c4.trans b4, c5⟩
            have h6 : M 67 59 = nI (mtk (Pt S)) := hC.2.2.1.2.2.1
            have w := m_wr_n J R nL xs D c e (d := d) (by omega) h61
            have eo : nI (o + 1) - 1 = nI o := pk_sub (a := o + 1) (b := 1) (by omega)
            rw [xX12_one, eX12_one_0, w]
            simp (disch := omega) only [px_bd_s, px_psh_s, px_psh_n, px_vb_s, px_ib_s, px_wb_s, px_bo_s, px_bo_n, Bool.cond_decide, cond_true, cond_false, ite_not, Bool.and_true, if_true, if_false, not_true_eq_false, not_false_eq_true, i10, eq_self, decide_true, decide_false, Bool.or_true, Bool.true_or, Bool.or_false, Bool.false_or, Bool.false_eq_true, eX12_one_0_2, eX12_one_8, h6, mz2, mz3, n2, n3, eX12_one_52, mz45, tn, a1, eX12_one_52_6, b1, eX12_one_52_8, b5, eo, c1, eX12_one_52_18, eX12_one_129, show ¬ (45 : Nat) = 2 from by decide, show ¬ (45 : Nat) = 3 from by decide]
      · refine Or.inr ⟨Pb S, by omega, ?_, ?_⟩
        · intro dc M hd hC
          obtain ⟨d, rfl⟩ : ∃ d', dc = d' + 1 := ⟨dc - 1, by omega⟩
          refine ⟨M, ?_, hC.n hV, CF.rf _ _⟩
          have h6 : M 37 6 = nI (Pt S) := hC.2.1.2.2.1
          rw [xX5_readOne, eX5_readOne_38_0, h6]
          simp (disch := omega) only [px_bd_s, px_psh_s, px_psh_n, px_vb_s, px_ib_s, px_wb_s, px_bo_s, px_bo_n, Bool.cond_decide, cond_true, cond_false, ite_not, Bool.and_true, if_true, if_false, not_true_eq_false, not_false_eq_true, i10, eq_self, decide_true, decide_false, Bool.or_true, Bool.true_or, Bool.or_false, Bool.false_or, Bool.false_eq_true, zs2, zs3, n2, n3, eX5_readOne_38_46, h6, zs45, tn, eX5_readOne_38_64, o5, o4, eX5_readOne_38_69, show ¬ (45 : Nat) = 2 from by decide, show ¬ (45 : Nat) = 3 from by decide]
        · intro c e dm M hd hC h61 h62
          obtain ⟨d, rfl⟩ : ∃ d', dm = d' + 1 := ⟨dm - 1, by omega⟩
          have o55 : o = 5 := by omega
          subst o55
          obtain ⟨M1, a1, a2, a3, a4, a5⟩ := m_opn_f J R nL xs D c e (d := d) (by omega) hV hC h61 h62
          have ow := m_one_w J R nL xs D c e (d := d) (by omega) (show Pb S ≤ 160 by omega) a4
          have hM3 : MN (Pn S) (px_uR M1 67 (upd (M1 67) 62 5)) := a2
          obtain ⟨M3, c1, c2, c3, c4, c5⟩ := m_em_f J R nL xs D c e (d := d) (by omega) (show Pn S < 160 by omega) hM3 10 0
          refine ⟨M3, Pn S + 1, ?_, c2, by omega, (a3.tr ((MF.rf M1).k 62 (by decide) 5)).tr c3, c4.trans a4, c5⟩
          have h6 : M 67 59 = nI (mtk (Pt S)) := hC.2.2.1.2.2.1
          have w := m_wr_n J R nL xs D c e (d := d) (by omega) h61
          have eo : (6 : Int32) - 1 = 5 := rfl
          rw [xX12_one, eX12_one_0, w]
          simp (disch := omega) only [px_bd_s, px_psh_s, px_psh_n, px_vb_s, px_ib_s, px_wb_s, px_bo_s, px_bo_n, Bool.cond_decide, cond_true, cond_false, ite_not, Bool.and_true, if_true, if_false, not_true_eq_false, not_false_eq_true, i10, eq_self, decide_true, decide_false, Bool.or_true, Bool.true_or, Bool.or_false, Bool.false_or, Bool.false_eq_true, eX12_one_0_2, eX12_one_8, h6, mz2, mz3, n2, n3, eX12_one_52, mz45, tn, a1, eX12_one_52_6, ow, eX12_one_52_8, a5, eo, c1, eX12_one_52_18, eX12_one_129, show ¬ (45 : Nat) = 2 from by decide, show ¬ (45 : Nat) = 3 from by decide]
    · by_cases tp : Pt S = 40
      · have hb := v5 (by omega)
        by_cases o4 : o < 5
        · obtain ⟨kc1, km1, k1, k2, hX⟩ := h2 o4
          rcases hX (nx T n S) (nx_V T hV).1 with ⟨S2, g, xc, xm⟩ | ⟨b, hb2, xc, xm⟩
          · have gV := g.1
            have s61 := gV.2.2.2.1
            by_cases tq : Pt S2 = 41
            · refine Or.inl ⟨nx T n S2, PG_p hV (by omega) g, ?_, ?_⟩
              · intro dc M hd hC
                obtain ⟨d, rfl⟩ : ∃ d', dc = d' + 2 := ⟨dc - 2, by omega⟩
                obtain ⟨M1, a1, a2, a3⟩ := c_nx_38 J R nL xs D (d := d) (by omega) v2 v3 hC
                obtain ⟨M2, b1, b2, b3⟩ := xc d M1 (by omega) a2
                obtain ⟨M3, c1, c2, c3⟩ := c_nx_38 J R nL xs D (d := d) (by omega) gV.2.1 gV.2.2.1 b2
                refine ⟨M3, ?_, c2, (a3.tr b3).tr c3⟩
                have h6 : M 37 6 = nI (Pt S) := hC.2.1.2.2.1
                have h6' : M2 37 6 = nI (Pt S2) := b2.2.1.2.2.1
                rw [xX5_readOne, eX5_readOne_38_0, h6]
                simp (disch := omega) only [px_bd_s, px_psh_s, px_psh_n, px_vb_s, px_ib_s, px_wb_s, px_bo_s, px_bo_n, Bool.cond_decide, cond_true, cond_false, ite_not, Bool.and_true, if_true, if_false, not_true_eq_false, not_false_eq_true, i10, eq_self, decide_true, decide_false, Bool.or_true, Bool.true_or, Bool.or_false, Bool.false_or, Bool.false_eq_true, zs2, zs3, n2, n3, eX5_readOne_38_46, h6, zs45, zs40, tn, tp, eX5_readOne_38_64, o5, o4, eX5_readOne_38_71, eX5_readOne_38_90, zp1, xX5_readInner, eX5_readInner_38_0, a1, eX5_readInner_38_0_2, b1, eX5_readInner_38_0_5, h6', zs41, tq, eX5_readInner_38_23, c1, eX5_readInner_38_23_2, eX5_readOne_38_90_5, eX5_readOne_38_97, show ¬ (40 : Nat) = 2 from by decide, show ¬ (40 : Nat) = 3 from by decide, show ¬ (40 : Nat) = 45 from by decide]
              · intro c e dm M hd hC h61 h62
                obtain ⟨d, rfl⟩ : ∃ d', dm = d' + 1 := ⟨dm - 1, by omega⟩
                obtain ⟨M1, a1, a2, a3, a4, a5⟩ := m_opn J R nL xs D c e (d := d) (by omega) o4 hV hC h61 h62
                obtain ⟨M2, b1, b2, b3, b4, b5⟩ := xm c e d M1 (by omega) a2 a4 a5
                obtain ⟨f, rfl⟩ : ∃ d', d = d' + 1 := ⟨d - 1, by omega⟩
                obtain ⟨M3, c1, c2, c3, c4, c5⟩ := m_nx J R nL xs D c e (d := f) (by omega) gV.2.1 gV.2.2.1 b2
                have hM3 : MP T n (nx T n S2) (px_uR M3 67 (upd (M3 67) 62 (nI o))) := c2
                refine ⟨px_uR M3 67 (upd (M3 67) 62 (nI o)), ?_, hM3, ((a3.tr b3).tr c3).k 62 (by decide) _, c4.trans b4, rfl⟩
                have h6 : M 67 59 = nI (mtk (Pt S)) := hC.2.2.1.2.2.1
                have h6' : M2 67 59 = nI (mtk (Pt S2)) := b2.2.2.1.2.2.1
                have w := m_wr_n J R nL xs D c e (d := f + 1) (by omega) h61
                have w2 := m_wr_n J R nL xs D c e (d := f) (by omega) b4
                have eo : nI (o + 1) - 1 = nI o := pk_sub (a := o + 1) (b := 1) (by omega)
                have h62' : M3 67 62 = nI (o + 1) := c5.trans b5
                rw [xX12_one, eX12_one_0, w]
                simp (disch := omega) only [px_bd_s, px_psh_s, px_psh_n, px_vb_s, px_ib_s, px_wb_s, px_bo_s, px_bo_n, Bool.cond_decide, cond_true, cond_false, ite_not, Bool.and_true, if_true, if_false, not_true_eq_false, not_false_eq_true, i10, eq_self, decide_true, decide_false, Bool.or_true, Bool.true_or, Bool.or_false, Bool.false_or, Bool.false_eq_true, eX12_one_0_2, eX12_one_8, h6, mz2, mz3, n2, n3, eX12_one_52, mz45, tn, eX12_one_89, mz40, tp, a1, eX12_one_89_6, b1, eX12_one_89_8, xX12_need, eX12_need_0, w2, eX12_need_0_2, eX12_need_8, h6', mz41, tq, eX12_need_23, c1, eX12_need_23_2, eX12_need_27, eX12_one_89_11, h62', eo, eX12_one_129, show ¬ (40 : Nat) = 2 from by decide, show ¬ (40 : Nat) = 3 from by decide, show ¬ (40 : Nat) = 45 from by decide]
            · have s2b : Pb S2 ≤ n := by have := gV.1; have := gV.2.1; omega
              refine Or.inr ⟨Pb S2, s2b, ?_, ?_⟩
              · intro dc M hd hC
                obtain ⟨d, rfl⟩ : ∃ d', dc = d' + 2 := ⟨dc - 2, by omega⟩
                obtain ⟨M1, a1, a2, a3⟩ := c_nx_38 J R nL xs D (d := d) (by omega) v2 v3 hC
                obtain ⟨M2, b1, b2, b3⟩ := xc d M1 (by omega) a2
                refine ⟨M2, ?_, b2.n gV, a3.tr b3⟩
                have h6 : M 37 6 = nI (Pt S) := hC.2.1.2.2.1
                have h6' : M2 37 6 = nI (Pt S2) := b2.2.1.2.2.1
                rw [xX5_readOne, eX5_readOne_38_0, h6]
                simp (disch := omega) only [px_bd_s, px_psh_s, px_psh_n, px_vb_s, px_ib_s, px_wb_s, px_bo_s, px_bo_n, Bool.cond_decide, cond_true, cond_false, ite_not, Bool.and_true, if_true, if_false, not_true_eq_false, not_false_eq_true, i10, eq_self, decide_true, decide_false, Bool.or_true, Bool.true_or, Bool.or_false, Bool.false_or, Bool.false_eq_true, zs2, zs3, n2, n3, eX5_readOne_38_46, h6, zs45, zs40, tn, tp, eX5_readOne_38_64, o5, o4, eX5_readOne_38_71, eX5_readOne_38_90, zp1, xX5_readInner, eX5_readInner_38_0, a1, eX5_readInner_38_0_2, b1, eX5_readInner_38_0_5, h6', zs41, tq, eX5_readInner_38_21, eX5_readOne_38_90_5, eX5_readOne_38_97, show ¬ (40 : Nat) = 2 from by decide, show ¬ (40 : Nat) = 3 from by decide, show ¬ (40 : Nat) = 45 from by decide]
              · intro c e dm M hd hC h61 h62
                obtain ⟨d, rfl⟩ : ∃ d', dm = d' + 1 := ⟨dm - 1, by omega⟩
                obtain ⟨M1, a1, a2, a3, a4, a5⟩ := m_opn J R nL xs D c e (d := d) (by omega) o4 hV hC h61 h62
                obtain ⟨M2, b1, b2, b3, b4, b5⟩ := xm c e d M1 (by omega) a2 a4 a5
                obtain ⟨f, rfl⟩ : ∃ d', d = d' + 1 := ⟨d - 1, by omega⟩
                have c1 := m_can J R nL xs D c e (d := f) (by omega) b4 b2.2.2.1.1
                obtain ⟨q1, q2, q3, q4, q5, q6⟩ := g
                have nb := (nx_V T hV).2
                have e0 : Pn (nx T n S) = Pn S := rfl
                rw [e0] at q4
                have fr : MF M (px_uR M2 67 (upd (upd (M2 67) 61 (nI (Pb S2))) 62 (nI o))) := by
                  have z := ((a3.tr b3).k 61 (by decide) (nI (Pb S2))).k 62 (by decide) (nI o)
                  rw [px_uR_2] at z
                  exact z
                refine ⟨px_uR M2 67 (upd (upd (M2 67) 61 (nI (Pb S2))) 62 (nI o)), Pn S2, ?_, ⟨b2.2.2.2.1, b2.2.2.2.2.1⟩, by omega, fr, rfl, rfl⟩
                have h6 : M 67 59 = nI (mtk (Pt S)) := hC.2.2.1.2.2.1
                have h6' : M2 67 59 = nI (mtk (Pt S2)) := b2.2.2.1.2.2.1
                have w := m_wr_n J R nL xs D c e (d := f + 1) (by omega) h61
                have w2 := m_wr_n J R nL xs D c e (d := f) (by omega) b4
                have eo : nI (o + 1) - 1 = nI o := pk_sub (a := o + 1) (b := 1) (by omega)
                have h62' : px_uR M2 67 (upd (M2 67) 61 (nI (Pb S2))) 67 62 = nI (o + 1) := b5
                rw [xX12_one, eX12_one_0, w]
                simp (disch := omega) only [px_bd_s, px_psh_s, px_psh_n, px_vb_s, px_ib_s, px_wb_s, px_bo_s, px_bo_n, Bool.cond_decide, cond_true, cond_false, ite_not, Bool.and_true, if_true, if_false, not_true_eq_false, not_false_eq_true, i10, eq_self, decide_true, decide_false, Bool.or_true, Bool.true_or, Bool.or_false, Bool.false_or, Bool.false_eq_true, eX12_one_0_2, eX12_one_8, h6, mz2, mz3, n2, n3, eX12_one_52, mz45, tn, eX12_one_89, mz40, tp, a1, eX12_one_89_6, b1, eX12_one_89_8, xX12_need, eX12_need_0, w2, eX12_need_0_2, eX12_need_8, h6', mz41, tq, c1, eX12_need_8_6, eX12_need_27, eX12_one_89_11, h62', eo, eX12_one_129, px_uR_2, show ¬ (40 : Nat) = 2 from by decide, show ¬ (40 : Nat) = 3 from by decide, show ¬ (40 : Nat) = 45 from by decide]
                rfl
          · refine Or.inr ⟨b, hb2, ?_, ?_⟩
            · intro dc M hd hC
              obtain ⟨d, rfl⟩ : ∃ d', dc = d' + 2 := ⟨dc - 2, by omega⟩
              obtain ⟨M1, a1, a2, a3⟩ := c_nx_38 J R nL xs D (d := d) (by omega) v2 v3 hC
              obtain ⟨M2, b1, b2, b3⟩ := xc d M1 (by omega) a2
              refine ⟨M2, ?_, b2, a3.tr b3⟩
              have h6 : M 37 6 = nI (Pt S) := hC.2.1.2.2.1
              rw [xX5_readOne, eX5_readOne_38_0, h6]
              simp (disch := omega) only [px_bd_s, px_psh_s, px_psh_n, px_vb_s, px_ib_s, px_wb_s, px_bo_s, px_bo_n, Bool.cond_decide, cond_true, cond_false, ite_not, Bool.and_true, if_true, if_false, not_true_eq_false, not_false_eq_true, i10, eq_self, decide_true, decide_false, Bool.or_true, Bool.true_or, Bool.or_false, Bool.false_or, Bool.false_eq_true, zs2, zs3, n2, n3, eX5_readOne_38_46, h6, zs45, zs40, tn, tp, eX5_readOne_38_64, o5, o4, eX5_readOne_38_71, eX5_readOne_38_90, zp1, xX5_readInner, eX5_readInner_38_0, a1, eX5_readInner_38_0_2, b1, eX5_readInner_38_0_5, eX5_readInner_38_21, eX5_readOne_38_90_5, eX5_readOne_38_97, show ¬ (40 : Nat) = 2 from by decide, show ¬ (40 : Nat) = 3 from by decide, show ¬ (40 : Nat) = 45 from by decide]
            · intro c e dm M hd hC h61 h62
              obtain ⟨d, rfl⟩ : ∃ d', dm = d' + 1 := ⟨dm - 1, by omega⟩
              obtain ⟨M1, a1, a2, a3, a4, a5⟩ := m_opn J R nL xs D c e (d := d) (by omega) o4 hV hC h61 h62
              obtain ⟨M2, N, b1, b2, b2', b3, b4, b5⟩ := xm c e d M1 (by omega) a2 a4 a5
              have nb := (nx_V T hV).2
              have e0 : Pn (nx T n S) = Pn S := rfl
              rw [e0] at b2'
              have nw := m_need_w J R nL xs D c e (d := d) (by omega) (show b ≤ 160 by omega) b4 41
              refine ⟨px_uR M2 67 (upd (M2 67) 62 (nI o)), N, ?_, b2, by omega, (a3.tr b3).k 62 (by decide) _, b4, rfl⟩
              have h6 : M 67 59 = nI (mtk (Pt S)) := hC.2.2.1.2.2.1
              have w := m_wr_n J R nL xs D c e (d := d) (by omega) h61
              have eo : nI (o + 1) - 1 = nI o := pk_sub (a := o + 1) (b := 1) (by omega)
              rw [xX12_one, eX12_one_0, w]
              simp (disch := omega) only [px_bd_s, px_psh_s, px_psh_n, px_vb_s, px_ib_s, px_wb_s, px_bo_s, px_bo_n, Bool.cond_decide, cond_true, cond_false, ite_not, Bool.and_true, if_true, if_false, not_true_eq_false, not_false_eq_true, i10, eq_self, decide_true, decide_false, Bool.or_true, Bool.true_or, Bool.or_false, Bool.false_or, Bool.false_eq_true, eX12_one_0_2, eX12_one_8, h6, mz2, mz3, n2, n3, eX12_one_52, mz45, tn, eX12_one_89, mz40, tp, a1, eX12_one_89_6, b1, eX12_one_89_8, nw, eX12_one_89_11, b5, eo, eX12_one_129, show ¬ (40 : Nat) = 2 from by decide, show ¬ (40 : Nat) = 3 from by decide, show ¬ (40 : Nat) = 45 from by decide]
        · refine Or.inr ⟨Pb S, by omega, ?_, ?_⟩
          · intro dc M hd hC
            obtain ⟨d, rfl⟩ : ∃ d', dc = d' + 1 := ⟨dc - 1, by omega⟩
            refine ⟨M, ?_, hC.n hV, CF.rf _ _⟩
            have h6 : M 37 6 = nI (Pt S) := hC.2.1.2.2.1
            rw [xX5_readOne, eX5_readOne_38_0, h6]
            simp (disch := omega) only [px_bd_s, px_psh_s, px_psh_n, px_vb_s, px_ib_s, px_wb_s, px_bo_s, px_bo_n, Bool.cond_decide, cond_true, cond_false, ite_not, Bool.and_true, if_true, if_false, not_true_eq_false, not_false_eq_true, i10, eq_self, decide_true, decide_false, Bool.or_true, Bool.true_or, Bool.or_false, Bool.false_or, Bool.false_eq_true, zs2, zs3, n2, n3, eX5_readOne_38_46, h6, zs45, zs40, tn, tp, eX5_readOne_38_64, o5, o4, eX5_readOne_38_69, show ¬ (40 : Nat) = 2 from by decide, show ¬ (40 : Nat) = 3 from by decide, show ¬ (40 : Nat) = 45 from by decide]
          · intro c e dm M hd hC h61 h62
            obtain ⟨d, rfl⟩ : ∃ d', dm = d' + 1 := ⟨dm - 1, by omega⟩
            have o55 : o = 5 := by omega
            subst o55
            obtain ⟨M1, a1, a2, a3, a4, a5⟩ := m_opn_f J R nL xs D c e (d := d) (by omega) hV hC h61 h62
            have ow := m_eit_w J R nL xs D c e (d := d) (by omega) (show Pb S ≤ 160 by omega) a4
            have nw := m_need_w J R nL xs D c e (d := d) (by omega) (show Pb S ≤ 160 by omega) a4 41
            refine ⟨px_uR M1 67 (upd (M1 67) 62 5), Pn S, ?_, a2, by omega, a3.k 62 (by decide) 5, a4, rfl⟩
            have h6 : M 67 59 = nI (mtk (Pt S)) := hC.2.2.1.2.2.1
            have w := m_wr_n J R nL xs D c e (d := d) (by omega) h61
            have eo : (6 : Int32) - 1 = 5 := rfl
            rw [xX12_one, eX12_one_0, w]
            simp (disch := omega) only [px_bd_s, px_psh_s, px_psh_n, px_vb_s, px_ib_s, px_wb_s, px_bo_s, px_bo_n, Bool.cond_decide, cond_true, cond_false, ite_not, Bool.and_true, if_true, if_false, not_true_eq_false, not_false_eq_true, i10, eq_self, decide_true, decide_false, Bool.or_true, Bool.true_or, Bool.or_false, Bool.false_or, Bool.false_eq_true, eX12_one_0_2, eX12_one_8, h6, mz2, mz3, n2, n3, eX12_one_52, mz45, tn, eX12_one_89, mz40, tp, a1, eX12_one_89_6, ow, eX12_one_89_8, nw, eX12_one_89_11, a5, eo, eX12_one_129, show ¬ (40 : Nat) = 2 from by decide, show ¬ (40 : Nat) = 3 from by decide, show ¬ (40 : Nat) = 45 from by decide]
      · refine Or.inr ⟨Pb S, by omega, ?_, ?_⟩
        · intro dc M hd hC
          obtain ⟨d, rfl⟩ : ∃ d', dc = d' + 1 := ⟨dc - 1, by omega⟩
          refine ⟨M, ?_, hC.n hV, CF.rf _ _⟩
          have h6 : M 37 6 = nI (Pt S) := hC.2.1.2.2.1
          rw [xX5_readOne, eX5_readOne_38_0, h6]
          simp (disch := omega) only [px_bd_s, px_psh_s, px_psh_n, px_vb_s, px_ib_s, px_wb_s, px_bo_s, px_bo_n, Bool.cond_decide, cond_true, cond_false, ite_not, Bool.and_true, if_true, if_false, not_true_eq_false, not_false_eq_true, i10, eq_self, decide_true, decide_false, Bool.or_true, Bool.true_or, Bool.or_false, Bool.false_or, Bool.false_eq_true, zs2, zs3, n2, n3, eX5_readOne_38_46, h6, zs45, zs40, tn, tp, eX5_readOne_38_69]
        · intro c e dm M hd hC h61 h62
          obtain ⟨d, rfl⟩ : ∃ d', dm = d' + 1 := ⟨dm - 1, by omega⟩
          have c1 := m_can J R nL xs D c e (d := d) (by omega) h61 hC.2.2.1.1
          refine ⟨px_uR M 67 (upd (M 67) 61 (nI (Pb S))), Pn S, ?_, ⟨hC.2.2.2.1, hC.2.2.2.2.1⟩, by omega, (MF.rf M).k 61 (by decide) _, rfl, h62⟩
          have h6 : M 67 59 = nI (mtk (Pt S)) := hC.2.2.1.2.2.1
          have w := m_wr_n J R nL xs D c e (d := d) (by omega) h61
          rw [xX12_one, eX12_one_0, w]
          simp (disch := omega) only [px_bd_s, px_psh_s, px_psh_n, px_vb_s, px_ib_s, px_wb_s, px_bo_s, px_bo_n, Bool.cond_decide, cond_true, cond_false, ite_not, Bool.and_true, if_true, if_false, not_true_eq_false, not_false_eq_true, i10, eq_self, decide_true, decide_false, Bool.or_true, Bool.true_or, Bool.or_false, Bool.false_or, Bool.false_eq_true, eX12_one_0_2, eX12_one_8, h6, mz2, mz3, n2, n3, eX12_one_52, mz45, tn, eX12_one_89, mz40, tp, eX12_one_125, c1, eX12_one_125_2, eX12_one_129]
theorem p_one_43 {T : Nat → Nat} {n kc km o : Nat} (ho : o ≤ 5) (hkc : 5 ≤ kc) (hkm : 5 ≤ km) (h1 : o < 5 → ∃ kc1 km1, kc1 + 2 ≤ kc ∧ km1 + 1 ≤ km ∧ XP J R 43 38 nL xs D T n kc1 km1 58 225 (o + 1)) (h2 : o < 5 → ∃ kc1 km1, kc1 + 2 ≤ kc ∧ km1 + 1 ≤ km ∧ XP J R 43 38 nL xs D T n kc1 km1 52 220 (o + 1)) : XP J R 43 38 nL xs D T n kc km 58 225 o := by
  intro S hV
  obtain ⟨v1, v2, v3, t61, v5, v6, v7⟩ := id hV
  have o5 : (nI o < 5) ↔ o < 5 := nI_ltI (b := 5) (by omega) (by decide)
  by_cases t23 : Pt S = 2 ∨ Pt S = 3
  · have hb := v5 (by omega)
    refine Or.inl ⟨nx T n (em S (if Pt S = 2 then 0 else 1) (Pv S)), PG_0 hV (by omega) (by split <;> omega) _, ?_, ?_⟩
    · intro dc M hd hC
      obtain ⟨d, rfl⟩ : ∃ d', dc = d' + 1 := ⟨dc - 1, by omega⟩
      obtain ⟨M1, a1, a2, a3⟩ := c_em_43 J R nL xs D (d := d) (by omega) (by omega) hC (if Pt S = 2 then 0 else 1) (Pv S)
      obtain ⟨M2, b1, b2, b3⟩ := c_nx_43 J R nL xs D (d := d) (by omega) (S := em S (if Pt S = 2 then 0 else 1) (Pv S)) v2 v3 a2
      refine ⟨M2, ?_, b2, a3.tr b3⟩
      have h6 : M 37 6 = nI (Pt S) := hC.2.1.2.2.1
      have h7 : M 37 7 = Pv S := hC.2.1.2.2.2 t23
      rw [xX5_readOne, eX5_readOne_43_0, h6]
      by_cases t2 : Pt S = 2
      · rw [if_pos t2] at a1
        have a1' : px_ex px_tab (d) 40 [Value.ref (38), Value.int (0), Value.int (Pv S)] (hp (M) (J) (R) (43) (38) nL xs (D)) = some (none, (hp (M1) (J) (R) (43) (38) nL xs (D))) := a1
        simp (disch := omega) only [px_bd_s, px_psh_s, px_psh_n, px_vb_s, px_ib_s, px_wb_s, px_bo_s, px_bo_n, Bool.cond_decide, cond_true, cond_false, ite_not, Bool.and_true, if_true, if_false, not_true_eq_false, not_false_eq_true, i10, eq_self, decide_true, decide_false, Bool.or_true, Bool.true_or, Bool.or_false, Bool.false_or, Bool.false_eq_true, zs2, t2, eX5_readOne_43_16, h6, eX5_readOne_43_33, h7, a1', eX5_readOne_43_33_3, b1, eX5_readOne_43_33_5]
      · have t3 : Pt S = 3 := t23.resolve_left t2
        rw [if_neg t2] at a1
        have a1' : px_ex px_tab (d) 40 [Value.ref (38), Value.int (1), Value.int (Pv S)] (hp (M) (J) (R) (43) (38) nL xs (D)) = some (none, (hp (M1) (J) (R) (43) (38) nL xs (D))) := a1
        simp (disch := omega) only [px_bd_s, px_psh_s, px_psh_n, px_vb_s, px_ib_s, px_wb_s, px_bo_s, px_bo_n, Bool.cond_decide, cond_true, cond_false, ite_not, Bool.and_true, if_true, if_false, not_true_eq_false, not_false_eq_true, i10, eq_self, decide_true, decide_false, Bool.or_true, Bool.true_or, Bool.or_false, Bool.false_or, Bool.false_eq_true, zs2, zs3, t2, t3, eX5_readOne_43_16, h6, eX5_readOne_43_32, eX5_readOne_43_33, h7, a1', eX5_readOne_43_33_3, b1, eX5_readOne_43_33_5, show ¬ (3 : Nat) = 2 from by decide]
    · intro c e dm M hd hC h61 h62
      obtain ⟨d, rfl⟩ : ∃ d', dm = d' + 1 := ⟨dm - 1, by omega⟩
      obtain ⟨M1, a1, a2, a3, a4, a5⟩ := m_em J R nL xs D c e (d := d) (by omega) (by omega) hC (if Pt S = 2 then 0 else 1) (Pv S)
      obtain ⟨M2, b1, b2, b3, b4, b5⟩ := m_nx J R nL xs D c e (d := d) (by omega) (S := em S (if Pt S = 2 then 0 else 1) (Pv S)) v2 v3 a2
      refine ⟨M2, ?_, b2, a3.tr b3, b4.trans (a4.trans h61), b5.trans (a5.trans h62)⟩
      have h6 : M 67 59 = nI (mtk (Pt S)) := hC.2.2.1.2.2.1
      have h7 : M 67 60 = Pv S := hC.2.2.1.2.2.2 t23
      have w := m_wr_n J R nL xs D c e (d := d) (by omega) h61
      rw [xX12_one, eX12_one_0, w]
      by_cases t2 : Pt S = 2
      · rw [if_pos t2] at a1
        have a1' : px_ex px_tab (d) 218 [Value.ref (67), Value.int (0), Value.int (Pv S)] (hp (M) (J) (R) (c) (e) nL xs (D)) = some (none, (hp (M1) (J) (R) (c) (e) nL xs (D))) := a1
        simp (disch := omega) only [px_bd_s, px_psh_s, px_psh_n, px_vb_s, px_ib_s, px_wb_s, px_bo_s, px_bo_n, Bool.cond_decide, cond_true, cond_false, ite_not, Bool.and_true, if_true, if_false, not_true_eq_false, not_false_eq_true, i10, eq_self, decide_true, decide_false, Bool.or_true, Bool.true_or, Bool.or_false, Bool.false_or, Bool.false_eq_true, eX12_one_0_2, eX12_one_8, h6, mz2, t2, eX12_one_24, eX12_one_38, h7, a1', eX12_one_38_3, b1, eX12_one_38_5, eX12_one_129]
      · have t3 : Pt S = 3 := t23.resolve_left t2
        rw [if_neg t2] at a1
        have a1' : px_ex px_tab (d) 218 [Value.ref (67), Value.int (1), Value.int (Pv S)] (hp (M) (J) (R) (c) (e) nL xs (D)) = some (none, (hp (M1) (J) (R) (c) (e) nL xs (D))) := a1
        simp (disch := omega) only [px_bd_s, px_psh_s, px_psh_n, px_vb_s, px_ib_s, px_wb_s, px_bo_s, px_bo_n, Bool.cond_decide, cond_true, cond_false, ite_not, Bool.and_true, if_true, if_false, not_true_eq_false, not_false_eq_true, i10, eq_self, decide_true, decide_false, Bool.or_true, Bool.true_or, Bool.or_false, Bool.false_or, Bool.false_eq_true, eX12_one_0_2, eX12_one_8, h6, mz2, mz3, t2, t3, eX12_one_24, eX12_one_37, eX12_one_38, h7, a1', eX12_one_38_3, b1, eX12_one_38_5, eX12_one_129, show ¬ (3 : Nat) = 2 from by decide]
  · have n2 : ¬ Pt S = 2 := fun q => t23 (Or.inl q)
    have n3 : ¬ Pt S = 3 := fun q => t23 (Or.inr q)
    by_cases tn : Pt S = 45
    · have hb := v5 (by omega)
      by_cases o4 : o < 5
      · obtain ⟨kc1, km1, k1, k2, hX⟩ := h1 o4
        rcases hX (nx T n S) (nx_V T hV).1 with ⟨S2, g, xc, xm⟩ | ⟨b, hb2, xc, xm⟩
        · obtain ⟨g1, g2⟩ := PG_1 hV (by omega) g (j := 10) (Or.inr rfl)
          have gV := g.1
          have g160 : Pn S2 < 160 := by have := gV.1; have := gV.2.1; omega
          refine Or.inl ⟨em S2 10 0, g1, ?_, ?_⟩
          · intro dc M hd hC
            obtain ⟨d, rfl⟩ : ∃ d', dc = d' + 2 := ⟨dc - 2, by omega⟩
            obtain ⟨M1, a1, a2, a3⟩ := c_nx_43 J R nL xs D (d := d) (by omega) v2 v3 hC
            obtain ⟨M2, b1, b2, b3⟩ := xc d M1 (by omega) a2
            obtain ⟨M3, c1, c2, c3⟩ := c_em_43 J R nL xs D (d := d) (by omega) g160 b2 10 0
            have c1' : px_ex px_tab (d) 40 [Value.ref (38), Value.int (2), Value.int (0)] (hp (M2) (J) (R) (43) (38) nL xs (D)) = some (none, (hp (M3) (J) (R) (43) (38) nL xs (D))) := c1
            refine ⟨M3, ?_, c2, (a3.tr b3).tr c3⟩
            have h6 : M 37 6 = nI (Pt S) := hC.2.1.2.2.1
            rw [xX5_readOne, eX5_readOne_43_0, h6]
            simp (disch := omega) only [px_bd_s, px_psh_s, px_psh_n, px_vb_s, px_ib_s, px_wb_s, px_bo_s, px_bo_n, Bool.cond_decide, cond_true, cond_false, ite_not, Bool.and_true, if_true, if_false, not_true_eq_false, not_false_eq_true, i10, eq_self, decide_true, decide_false, Bool.or_true, Bool.true_or, Bool.or_false, Bool.false_or, Bool.false_eq_true, zs2, zs3, n2, n3, eX5_readOne_43_46, h6, zs45, tn, eX5_readOne_43_64, o5, o4, eX5_readOne_43_71, zp1, xX5_readNegated, eX5_readNegated_43_0, a1, eX5_readNegated_43_0_2, b1, eX5_readNegated_43_0_5, c1', eX5_readNegated_43_0_11, eX5_readOne_43_71_9, eX5_readOne_43_97, show ¬ (45 : Nat) = 2 from by decide, show ¬ (45 : Nat) = 3 from by decide]
          · intro c e dm M hd hC h61 h62
            obtain ⟨d, rfl⟩ : ∃ d', dm = d' + 1 := ⟨dm - 1, by omega⟩
            obtain ⟨M1, a1, a2, a3, a4, a5⟩ := m_opn J R nL xs D c e (d := d) (by omega) o4 hV hC h61 h62
            obtain ⟨M2, b1, b2, b3, b4, b5⟩ := xm c e d M1 (by omega) a2 a4 a5
            have hM3 : MP T n S2 (px_uR M2 67 (upd (M2 67) 62 (nI o))) := b2
            obtain ⟨M3, c1, c2, c3, c4, c5⟩ := m_em J R nL xs D c e (d := d) (by omega) g160 hM3 10 0
            have c1' : px_ex px_tab (d) 218 [Value.ref (67), Value.int (10), Value.int (0)] (hp (px_uR M2 67 (upd (M2 67) 62 (nI o))) (J) (R) (c) (e) nL xs (D)) = some (none, (hp (M3) (J) (R) (c) (e) nL xs (D))) := c1
            refine ⟨M3, ?_, c2, ((a3.tr b3).tr ((MF.rf M2).k 62 (by decide) (nI o))).tr c3, c4.trans b4, c5⟩
            have h6 : M 67 59 = nI (mtk (Pt S)) := hC.2.2.1.2.2.1
            have w := m_wr_n J R nL xs D c e (d := d) (by omega) h61
            have eo : nI (o + 1) - 1 = nI o := pk_sub (a := o + 1) (b := 1) (by omega)
            rw [xX12_one, eX12_one_0, w]
            simp (disch := omega) only [px_bd_s, px_psh_s, px_psh_n, px_vb_s, px_ib_s, px_wb_s, px_bo_s, px_bo_n, Bool.cond_decide, cond_true, cond_false, ite_not, Bool.and_true, if_true, if_false, not_true_eq_false, not_false_eq_true, i10, eq_self, decide_true, decide_false, Bool.or_true, Bool.true_or, Bool.or_false, Bool.false_or, Bool.false_eq_true, eX12_one_0_2, eX12_one_8, h6, mz2, mz3, n2, n3, eX12_one_52, mz45, tn, a1, eX12_one_52_6, b1, eX12_one_52_8, b5, eo, c1', eX12_one_52_18, eX12_one_129, show ¬ (45 : Nat) = 2 from by decide, show ¬ (45 : Nat) = 3 from by decide]
        · refine Or.inr ⟨b, hb2, ?_, ?_⟩
          · intro dc M hd hC
            obtain ⟨d, rfl⟩ : ∃ d', dc = d' + 2 := ⟨dc - 2, by omega⟩
            obtain ⟨M1, a1, a2, a3⟩ := c_nx_43 J R nL xs D (d := d) (by omega) v2 v3 hC
            obtain ⟨M2, b1, b2, b3⟩ := xc d M1 (by omega) a2
            obtain ⟨M3, c1, c2, c3⟩ := c_em_f_43 J R nL xs D (d := d) (by omega) b2 2 0
            refine ⟨M3, ?_, c2, (a3.tr b3).tr c3⟩
            have h6 : M 37 6 = nI (Pt S) := hC.2.1.2.2.1
            rw [xX5_readOne, eX5_readOne_43_0, h6]
            simp (disch := omega) only [px_bd_s, px_psh_s, px_psh_n, px_vb_s, px_ib_s, px_wb_s, px_bo_s, px_bo_n, Bool.cond_decide, cond_true, cond_false, ite_not, Bool.and_true, if_true, if_false, not_true_eq_false, not_false_eq_true, i10, eq_self, decide_true, decide_false, Bool.or_true, Bool.true_or, Bool.or_false, Bool.false_or, Bool.false_eq_true, zs2, zs3, n2, n3, eX5_readOne_43_46, h6, zs45, tn, eX5_readOne_43_64, o5, o4, eX5_readOne_43_71, zp1, xX5_readNegated, eX5_readNegated_43_0, a1, eX5_readNegated_43_0_2, b1, eX5_readNegated_43_0_5, c1, eX5_readNegated_43_0_11, eX5_readOne_43_71_9, eX5_readOne_43_97, show ¬ (45 : Nat) = 2 from by decide, show ¬ (45 : Nat) = 3 from by decide]
          · intro c e dm M hd hC h61 h62
            obtain ⟨d, rfl⟩ : ∃ d', dm = d' + 1 := ⟨dm - 1, by omega⟩
            obtain ⟨M1, a1, a2, a3, a4, a5⟩ := m_opn J R nL xs D c e (d := d) (by omega) o4 hV hC h61 h62
            obtain ⟨M2, N, b1, b2, b2', b3, b4, b5⟩ := xm c e d M1 (by omega) a2 a4 a5
            have nb := (nx_V T hV).2
            have e0 : Pn (nx T n S) = Pn S := rfl
            rw [e0] at b2'
            have hM3 : MN N (px_uR M2 67 (upd (M2 67) 62 (nI o))) := b2
            obtain ⟨M3, c1, c2, c3, c4, c5⟩ := m_em_f J R nL xs D c e (d := d) (by omega) (show N < 160 by omega) hM3 10 0
            refine ⟨M3, N + 1, ?_, c2, by omega, ((a3.tr b3).tr ((MF.rf M2).k 62 (by decide) (nI o))).tr c3, c4.trans b4, c5⟩
            have h6 : M 67 59 = nI (mtk (Pt S)) := hC.2.2.1.2.2.1
            have w := m_wr_n J R nL xs D c e (d := d) (by omega) h61
            have eo : nI (o + 1) - 1 = nI o := pk_sub (a := o + 1) (b := 1) (by omega)
            rw [xX12_one, eX12_one_0, w]
            simp (disch := omega) only [px_bd_s, px_psh_s, px_psh_n, px_vb_s, px_ib_s, px_wb_s, px_bo_s, px_bo_n, Bool.cond_decide, cond_true, cond_false, ite_not, Bool.and_true, if_true, if_false, not_true_eq_false, not_false_eq_true, i10, eq_self, decide_true, decide_false, Bool.or_true, Bool.true_or, Bool.or_false, Bool.false_or, Bool.false_eq_true, eX12_one_0_2, eX12_one_8, h6, mz2, mz3, n2, n3, eX12_one_52, mz45, tn, a1, eX12_one_52_6, b1, eX12_one_52_8, b5, eo, c1, eX12_one_52_18, eX12_one_129, show ¬ (45 : Nat) = 2 from by decide, show ¬ (45 : Nat) = 3 from by decide]
      · refine Or.inr ⟨Pb S, by omega, ?_, ?_⟩
        · intro dc M hd hC
          obtain ⟨d, rfl⟩ : ∃ d', dc = d' + 1 := ⟨dc - 1, by omega⟩
          refine ⟨M, ?_, hC.n hV, CF.rf _ _⟩
          have h6 : M 37 6 = nI (Pt S) := hC.2.1.2.2.1
          rw [xX5_readOne, eX5_readOne_43_0, h6]
          simp (disch := omega) only [px_bd_s, px_psh_s, px_psh_n, px_vb_s, px_ib_s, px_wb_s, px_bo_s, px_bo_n, Bool.cond_decide, cond_true, cond_false, ite_not, Bool.and_true, if_true, if_false, not_true_eq_false, not_false_eq_true, i10, eq_self, decide_true, decide_false, Bool.or_true, Bool.true_or, Bool.or_false, Bool.false_or, Bool.false_eq_true, zs2, zs3, n2, n3, eX5_readOne_43_46, h6, zs45, tn, eX5_readOne_43_64, o5, o4, eX5_readOne_43_69, show ¬ (45 : Nat) = 2 from by decide, show ¬ (45 : Nat) = 3 from by decide]
        · intro c e dm M hd hC h61 h62
          obtain ⟨d, rfl⟩ : ∃ d', dm = d' + 1 := ⟨dm - 1, by omega⟩
          have o55 : o = 5 := by omega
          subst o55
          obtain ⟨M1, a1, a2, a3, a4, a5⟩ := m_opn_f J R nL xs D c e (d := d) (by omega) hV hC h61 h62
          have ow := m_one_w J R nL xs D c e (d := d) (by omega) (show Pb S ≤ 160 by omega) a4
          have hM3 : MN (Pn S) (px_uR M1 67 (upd (M1 67) 62 5)) := a2
          obtain ⟨M3, c1, c2, c3, c4, c5⟩ := m_em_f J R nL xs D c e (d := d) (by omega) (show Pn S < 160 by omega) hM3 10 0
          refine ⟨M3, Pn S + 1, ?_, c2, by omega, (a3.tr ((MF.rf M1).k 62 (by decide) 5)).tr c3, c4.trans a4, c5⟩
          have h6 : M 67 59 = nI (mtk (Pt S)) := hC.2.2.1.2.2.1
          have w := m_wr_n J R nL xs D c e (d := d) (by omega) h61
          have eo : (6 : Int32) - 1 = 5 := rfl
          rw [xX12_one, eX12_one_0, w]
          simp (disch := omega) only [px_bd_s, px_psh_s, px_psh_n, px_vb_s, px_ib_s, px_wb_s, px_bo_s, px_bo_n, Bool.cond_decide, cond_true, cond_false, ite_not, Bool.and_true, if_true, if_false, not_true_eq_false, not_false_eq_true, i10, eq_self, decide_true, decide_false, Bool.or_true, Bool.true_or, Bool.or_false, Bool.false_or, Bool.false_eq_true, eX12_one_0_2, eX12_one_8, h6, mz2, mz3, n2, n3, eX12_one_52, mz45, tn, a1, eX12_one_52_6, ow, eX12_one_52_8, a5, eo, c1, eX12_one_52_18, eX12_one_129, show ¬ (45 : Nat) = 2 from by decide, show ¬ (45 : Nat) = 3 from by decide]
    · by_cases tp : Pt S = 40
      · have hb := v5 (by omega)
        by_cases o4 : o < 5
        · obtain ⟨kc1, km1, k1, k2, hX⟩ := h2 o4
          rcases hX (nx T n S) (nx_V T hV).1 with ⟨S2, g, xc, xm⟩ | ⟨b, hb2, xc, xm⟩
          · have gV := g.1
            have s61 := gV.2.2.2.1
            by_cases tq : Pt S2 = 41
            · refine Or.inl ⟨nx T n S2, PG_p hV (by omega) g, ?_, ?_⟩
              · intro dc M hd hC
                obtain ⟨d, rfl⟩ : ∃ d', dc = d' + 2 := ⟨dc - 2, by omega⟩
                obtain ⟨M1, a1, a2, a3⟩ := c_nx_43 J R nL xs D (d := d) (by omega) v2 v3 hC
                obtain ⟨M2, b1, b2, b3⟩ := xc d M1 (by omega) a2
                obtain ⟨M3, c1, c2, c3⟩ := c_nx_43 J R nL xs D (d := d) (by omega) gV.2.1 gV.2.2.1 b2
                refine ⟨M3, ?_, c2, (a3.tr b3).tr c3⟩
                have h6 : M 37 6 = nI (Pt S) := hC.2.1.2.2.1
                have h6' : M2 37 6 = nI (Pt S2) := b2.2.1.2.2.1
                rw [xX5_readOne, eX5_readOne_43_0, h6]
                simp (disch := omega) only [px_bd_s, px_psh_s, px_psh_n, px_vb_s, px_ib_s, px_wb_s, px_bo_s, px_bo_n, Bool.cond_decide, cond_true, cond_false, ite_not, Bool.and_true, if_true, if_false, not_true_eq_false, not_false_eq_true, i10, eq_self, decide_true, decide_false, Bool.or_true, Bool.true_or, Bool.or_false, Bool.false_or, Bool.false_eq_true, zs2, zs3, n2, n3, eX5_readOne_43_46, h6, zs45, zs40, tn, tp, eX5_readOne_43_64, o5, o4, eX5_readOne_43_71, eX5_readOne_43_90, zp1, xX5_readInner, eX5_readInner_43_0, a1, eX5_readInner_43_0_2, b1, eX5_readInner_43_0_5, h6', zs41, tq, eX5_readInner_43_23, c1, eX5_readInner_43_23_2, eX5_readOne_43_90_5, eX5_readOne_43_97, show ¬ (40 : Nat) = 2 from by decide, show ¬ (40 : Nat) = 3 from by decide, show ¬ (40 : Nat) = 45 from by decide]
              · intro c e dm M hd hC h61 h62
                obtain ⟨d, rfl⟩ : ∃ d', dm = d' + 1 := ⟨dm - 1, by omega⟩
                obtain ⟨M1, a1, a2, a3, a4, a5⟩ := m_opn J R nL xs D c e (d := d) (by omega) o4 hV hC h61 h62
                obtain ⟨M2, b1, b2, b3, b4, b5⟩ := xm c e d M1 (by omega) a2 a4 a5
                obtain ⟨f, rfl⟩ : ∃ d', d = d' + 1 := ⟨d - 1, by omega⟩
                obtain ⟨M3, c1, c2, c3, c4, c5⟩ := m_nx J R nL xs D c e (d := f) (by omega) gV.2.1 gV.2.2.1 b2
                have hM3 : MP T n (nx T n S2) (px_uR M3 67 (upd (M3 67) 62 (nI o))) := c2
                refine ⟨px_uR M3 67 (upd (M3 67) 62 (nI o)), ?_, hM3, ((a3.tr b3).tr c3).k 62 (by decide) _, c4.trans b4, rfl⟩
                have h6 : M 67 59 = nI (mtk (Pt S)) := hC.2.2.1.2.2.1
                have h6' : M2 67 59 = nI (mtk (Pt S2)) := b2.2.2.1.2.2.1
                have w := m_wr_n J R nL xs D c e (d := f + 1) (by omega) h61
                have w2 := m_wr_n J R nL xs D c e (d := f) (by omega) b4
                have eo : nI (o + 1) - 1 = nI o := pk_sub (a := o + 1) (b := 1) (by omega)
                have h62' : M3 67 62 = nI (o + 1) := c5.trans b5
                rw [xX12_one, eX12_one_0, w]
                simp (disch := omega) only [px_bd_s, px_psh_s, px_psh_n, px_vb_s, px_ib_s, px_wb_s, px_bo_s, px_bo_n, Bool.cond_decide, cond_true, cond_false, ite_not, Bool.and_true, if_true, if_false, not_true_eq_false, not_false_eq_true, i10, eq_self, decide_true, decide_false, Bool.or_true, Bool.true_or, Bool.or_false, Bool.false_or, Bool.false_eq_true, eX12_one_0_2, eX12_one_8, h6, mz2, mz3, n2, n3, eX12_one_52, mz45, tn, eX12_one_89, mz40, tp, a1, eX12_one_89_6, b1, eX12_one_89_8, xX12_need, eX12_need_0, w2, eX12_need_0_2, eX12_need_8, h6', mz41, tq, eX12_need_23, c1, eX12_need_23_2, eX12_need_27, eX12_one_89_11, h62', eo, eX12_one_129, show ¬ (40 : Nat) = 2 from by decide, show ¬ (40 : Nat) = 3 from by decide, show ¬ (40 : Nat) = 45 from by decide]
            · have s2b : Pb S2 ≤ n := by have := gV.1; have := gV.2.1; omega
              refine Or.inr ⟨Pb S2, s2b, ?_, ?_⟩
              · intro dc M hd hC
                obtain ⟨d, rfl⟩ : ∃ d', dc = d' + 2 := ⟨dc - 2, by omega⟩
                obtain ⟨M1, a1, a2, a3⟩ := c_nx_43 J R nL xs D (d := d) (by omega) v2 v3 hC
                obtain ⟨M2, b1, b2, b3⟩ := xc d M1 (by omega) a2
                refine ⟨M2, ?_, b2.n gV, a3.tr b3⟩
                have h6 : M 37 6 = nI (Pt S) := hC.2.1.2.2.1
                have h6' : M2 37 6 = nI (Pt S2) := b2.2.1.2.2.1
                rw [xX5_readOne, eX5_readOne_43_0, h6]
                simp (disch := omega) only [px_bd_s, px_psh_s, px_psh_n, px_vb_s, px_ib_s, px_wb_s, px_bo_s, px_bo_n, Bool.cond_decide, cond_true, cond_false, ite_not, Bool.and_true, if_true, if_false, not_true_eq_false, not_false_eq_true, i10, eq_self, decide_true, decide_false, Bool.or_true, Bool.true_or, Bool.or_false, Bool.false_or, Bool.false_eq_true, zs2, zs3, n2, n3, eX5_readOne_43_46, h6, zs45, zs40, tn, tp, eX5_readOne_43_64, o5, o4, eX5_readOne_43_71, eX5_readOne_43_90, zp1, xX5_readInner, eX5_readInner_43_0, a1, eX5_readInner_43_0_2, b1, eX5_readInner_43_0_5, h6', zs41, tq, eX5_readInner_43_21, eX5_readOne_43_90_5, eX5_readOne_43_97, show ¬ (40 : Nat) = 2 from by decide, show ¬ (40 : Nat) = 3 from by decide, show ¬ (40 : Nat) = 45 from by decide]
              · intro c e dm M hd hC h61 h62
                obtain ⟨d, rfl⟩ : ∃ d', dm = d' + 1 := ⟨dm - 1, by omega⟩
                obtain ⟨M1, a1, a2, a3, a4, a5⟩ := m_opn J R nL xs D c e (d := d) (by omega) o4 hV hC h61 h62
                obtain ⟨M2, b1, b2, b3, b4, b5⟩ := xm c e d M1 (by omega) a2 a4 a5
                obtain ⟨f, rfl⟩ : ∃ d', d = d' + 1 := ⟨d - 1, by omega⟩
                have c1 := m_can J R nL xs D c e (d := f) (by omega) b4 b2.2.2.1.1
                obtain ⟨q1, q2, q3, q4, q5, q6⟩ := g
                have nb := (nx_V T hV).2
                have e0 : Pn (nx T n S) = Pn S := rfl
                rw [e0] at q4
                have fr : MF M (px_uR M2 67 (upd (upd (M2 67) 61 (nI (Pb S2))) 62 (nI o))) := by
                  have z := ((a3.tr b3).k 61 (by decide) (nI (Pb S2))).k 62 (by decide) (nI o)
                  rw [px_uR_2] at z
                  exact z
                refine ⟨px_uR M2 67 (upd (upd (M2 67) 61 (nI (Pb S2))) 62 (nI o)), Pn S2, ?_, ⟨b2.2.2.2.1, b2.2.2.2.2.1⟩, by omega, fr, rfl, rfl⟩
                have h6 : M 67 59 = nI (mtk (Pt S)) := hC.2.2.1.2.2.1
                have h6' : M2 67 59 = nI (mtk (Pt S2)) := b2.2.2.1.2.2.1
                have w := m_wr_n J R nL xs D c e (d := f + 1) (by omega) h61
                have w2 := m_wr_n J R nL xs D c e (d := f) (by omega) b4
                have eo : nI (o + 1) - 1 = nI o := pk_sub (a := o + 1) (b := 1) (by omega)
                have h62' : px_uR M2 67 (upd (M2 67) 61 (nI (Pb S2))) 67 62 = nI (o + 1) := b5
                rw [xX12_one, eX12_one_0, w]
                simp (disch := omega) only [px_bd_s, px_psh_s, px_psh_n, px_vb_s, px_ib_s, px_wb_s, px_bo_s, px_bo_n, Bool.cond_decide, cond_true, cond_false, ite_not, Bool.and_true, if_true, if_false, not_true_eq_false, not_false_eq_true, i10, eq_self, decide_true, decide_false, Bool.or_true, Bool.true_or, Bool.or_false, Bool.false_or, Bool.false_eq_true, eX12_one_0_2, eX12_one_8, h6, mz2, mz3, n2, n3, eX12_one_52, mz45, tn, eX12_one_89, mz40, tp, a1, eX12_one_89_6, b1, eX12_one_89_8, xX12_need, eX12_need_0, w2, eX12_need_0_2, eX12_need_8, h6', mz41, tq, c1, eX12_need_8_6, eX12_need_27, eX12_one_89_11, h62', eo, eX12_one_129, px_uR_2, show ¬ (40 : Nat) = 2 from by decide, show ¬ (40 : Nat) = 3 from by decide, show ¬ (40 : Nat) = 45 from by decide]
                rfl
          · refine Or.inr ⟨b, hb2, ?_, ?_⟩
            · intro dc M hd hC
              obtain ⟨d, rfl⟩ : ∃ d', dc = d' + 2 := ⟨dc - 2, by omega⟩
              obtain ⟨M1, a1, a2, a3⟩ := c_nx_43 J R nL xs D (d := d) (by omega) v2 v3 hC
              obtain ⟨M2, b1, b2, b3⟩ := xc d M1 (by omega) a2
              refine ⟨M2, ?_, b2, a3.tr b3⟩
              have h6 : M 37 6 = nI (Pt S) := hC.2.1.2.2.1
              rw [xX5_readOne, eX5_readOne_43_0, h6]
              simp (disch := omega) only [px_bd_s, px_psh_s, px_psh_n, px_vb_s, px_ib_s, px_wb_s, px_bo_s, px_bo_n, Bool.cond_decide, cond_true, cond_false, ite_not, Bool.and_true, if_true, if_false, not_true_eq_false, not_false_eq_true, i10, eq_self, decide_true, decide_false, Bool.or_true, Bool.true_or, Bool.or_false, Bool.false_or, Bool.false_eq_true, zs2, zs3, n2, n3, eX5_readOne_43_46, h6, zs45, zs40, tn, tp, eX5_readOne_43_64, o5, o4, eX5_readOne_43_71, eX5_readOne_43_90, zp1, xX5_readInner, eX5_readInner_43_0, a1, eX5_readInner_43_0_2, b1, eX5_readInner_43_0_5, eX5_readInner_43_21, eX5_readOne_43_90_5, eX5_readOne_43_97, show ¬ (40 : Nat) = 2 from by decide, show ¬ (40 : Nat) = 3 from by decide, show ¬ (40 : Nat) = 45 from by decide]
            · intro c e dm M hd hC h61 h62
              obtain ⟨d, rfl⟩ : ∃ d', dm = d' + 1 := ⟨dm - 1, by omega⟩
              obtain ⟨M1, a1, a2, a3, a4, a5⟩ := m_opn J R nL xs D c e (d := d) (by omega) o4 hV hC h61 h62
              obtain ⟨M2, N, b1, b2, b2', b3, b4, b5⟩ := xm c e d M1 (by omega) a2 a4 a5
              have nb := (nx_V T hV).2
              have e0 : Pn (nx T n S) = Pn S := rfl
              rw [e0] at b2'
              have nw := m_need_w J R nL xs D c e (d := d) (by omega) (show b ≤ 160 by omega) b4 41
              refine ⟨px_uR M2 67 (upd (M2 67) 62 (nI o)), N, ?_, b2, by omega, (a3.tr b3).k 62 (by decide) _, b4, rfl⟩
              have h6 : M 67 59 = nI (mtk (Pt S)) := hC.2.2.1.2.2.1
              have w := m_wr_n J R nL xs D c e (d := d) (by omega) h61
              have eo : nI (o + 1) - 1 = nI o := pk_sub (a := o + 1) (b := 1) (by omega)
              rw [xX12_one, eX12_one_0, w]
              simp (disch := omega) only [px_bd_s, px_psh_s, px_psh_n, px_vb_s, px_ib_s, px_wb_s, px_bo_s, px_bo_n, Bool.cond_decide, cond_true, cond_false, ite_not, Bool.and_true, if_true, if_false, not_true_eq_false, not_false_eq_true, i10, eq_self, decide_true, decide_false, Bool.or_true, Bool.true_or, Bool.or_false, Bool.false_or, Bool.false_eq_true, eX12_one_0_2, eX12_one_8, h6, mz2, mz3, n2, n3, eX12_one_52, mz45, tn, eX12_one_89, mz40, tp, a1, eX12_one_89_6, b1, eX12_one_89_8, nw, eX12_one_89_11, b5, eo, eX12_one_129, show ¬ (40 : Nat) = 2 from by decide, show ¬ (40 : Nat) = 3 from by decide, show ¬ (40 : Nat) = 45 from by decide]
        · refine Or.inr ⟨Pb S, by omega, ?_, ?_⟩
          · intro dc M hd hC
            obtain ⟨d, rfl⟩ : ∃ d', dc = d' + 1 := ⟨dc - 1, by omega⟩
            refine ⟨M, ?_, hC.n hV, CF.rf _ _⟩
            have h6 : M 37 6 = nI (Pt S) := hC.2.1.2.2.1
            rw [xX5_readOne, eX5_readOne_43_0, h6]
            simp (disch := omega) only [px_bd_s, px_psh_s, px_psh_n, px_vb_s, px_ib_s, px_wb_s, px_bo_s, px_bo_n, Bool.cond_decide, cond_true, cond_false, ite_not, Bool.and_true, if_true, if_false, not_true_eq_false, not_false_eq_true, i10, eq_self, decide_true, decide_false, Bool.or_true, Bool.true_or, Bool.or_false, Bool.false_or, Bool.false_eq_true, zs2, zs3, n2, n3, eX5_readOne_43_46, h6, zs45, zs40, tn, tp, eX5_readOne_43_64, o5, o4, eX5_readOne_43_69, show ¬ (40 : Nat) = 2 from by decide, show ¬ (40 : Nat) = 3 from by decide, show ¬ (40 : Nat) = 45 from by decide]
          · intro c e dm M hd hC h61 h62
            obtain ⟨d, rfl⟩ : ∃ d', dm = d' + 1 := ⟨dm - 1, by omega⟩
            have o55 : o = 5 := by omega
            subst o55
            obtain ⟨M1, a1, a2, a3, a4, a5⟩ := m_opn_f J R nL xs D c e (d := d) (by omega) hV hC h61 h62
            have ow := m_eit_w J R nL xs D c e (d := d) (by omega) (show Pb S ≤ 160 by omega) a4
            have nw := m_need_w J R nL xs D c e (d := d) (by omega) (show Pb S ≤ 160 by omega) a4 41
            refine ⟨px_uR M1 67 (upd (M1 67) 62 5), Pn S, ?_, a2, by omega, a3.k 62 (by decide) 5, a4, rfl⟩
            have h6 : M 67 59 = nI (mtk (Pt S)) := hC.2.2.1.2.2.1
            have w := m_wr_n J R nL xs D c e (d := d) (by omega) h61
            have eo : (6 : Int32) - 1 = 5 := rfl
            rw [xX12_one, eX12_one_0, w]
            simp (disch := omega) only [px_bd_s, px_psh_s, px_psh_n, px_vb_s, px_ib_s, px_wb_s, px_bo_s, px_bo_n, Bool.cond_decide, cond_true, cond_false, ite_not, Bool.and_true, if_true, if_false, not_true_eq_false, not_false_eq_true, i10, eq_self, decide_true, decide_false, Bool.or_true, Bool.true_or, Bool.or_false, Bool.false_or, Bool.false_eq_true, eX12_one_0_2, eX12_one_8, h6, mz2, mz3, n2, n3, eX12_one_52, mz45, tn, eX12_one_89, mz40, tp, a1, eX12_one_89_6, ow, eX12_one_89_8, nw, eX12_one_89_11, a5, eo, eX12_one_129, show ¬ (40 : Nat) = 2 from by decide, show ¬ (40 : Nat) = 3 from by decide, show ¬ (40 : Nat) = 45 from by decide]
      · refine Or.inr ⟨Pb S, by omega, ?_, ?_⟩
        · intro dc M hd hC
          obtain ⟨d, rfl⟩ : ∃ d', dc = d' + 1 := ⟨dc - 1, by omega⟩
          refine ⟨M, ?_, hC.n hV, CF.rf _ _⟩
          have h6 : M 37 6 = nI (Pt S) := hC.2.1.2.2.1
          rw [xX5_readOne, eX5_readOne_43_0, h6]
          simp (disch := omega) only [px_bd_s, px_psh_s, px_psh_n, px_vb_s, px_ib_s, px_wb_s, px_bo_s, px_bo_n, Bool.cond_decide, cond_true, cond_false, ite_not, Bool.and_true, if_true, if_false, not_true_eq_false, not_false_eq_true, i10, eq_self, decide_true, decide_false, Bool.or_true, Bool.true_or, Bool.or_false, Bool.false_or, Bool.false_eq_true, zs2, zs3, n2, n3, eX5_readOne_43_46, h6, zs45, zs40, tn, tp, eX5_readOne_43_69]
        · intro c e dm M hd hC h61 h62
          obtain ⟨d, rfl⟩ : ∃ d', dm = d' + 1 := ⟨dm - 1, by omega⟩
          have c1 := m_can J R nL xs D c e (d := d) (by omega) h61 hC.2.2.1.1
          refine ⟨px_uR M 67 (upd (M 67) 61 (nI (Pb S))), Pn S, ?_, ⟨hC.2.2.2.1, hC.2.2.2.2.1⟩, by omega, (MF.rf M).k 61 (by decide) _, rfl, h62⟩
          have h6 : M 67 59 = nI (mtk (Pt S)) := hC.2.2.1.2.2.1
          have w := m_wr_n J R nL xs D c e (d := d) (by omega) h61
          rw [xX12_one, eX12_one_0, w]
          simp (disch := omega) only [px_bd_s, px_psh_s, px_psh_n, px_vb_s, px_ib_s, px_wb_s, px_bo_s, px_bo_n, Bool.cond_decide, cond_true, cond_false, ite_not, Bool.and_true, if_true, if_false, not_true_eq_false, not_false_eq_true, i10, eq_self, decide_true, decide_false, Bool.or_true, Bool.true_or, Bool.or_false, Bool.false_or, Bool.false_eq_true, eX12_one_0_2, eX12_one_8, h6, mz2, mz3, n2, n3, eX12_one_52, mz45, tn, eX12_one_89, mz40, tp, eX12_one_125, c1, eX12_one_125_2, eX12_one_129]
end S85
