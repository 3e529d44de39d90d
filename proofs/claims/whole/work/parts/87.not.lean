/-! PART 87: READING: compared, not; all of it, sign in sign -/
section S87
variable (J : Nat → Nat → Int64) (R : Nat → Nat → Option Nat) (nL : Nat) (xs : Nat → Int32) (D : px_H)
theorem p_not_38 {T : Nat → Nat} {n kc km o : Nat} (hn : n ≤ 160) (ho : o ≤ 5) (hkc : 3 ≤ kc) (hkm : 4 ≤ km) (hX : XP J R 38 43 nL xs D T n kc km 56 223 o) (hN : o < 5 → ∃ kc1 km1, kc1 + 1 ≤ kc + 2 ∧ km1 + 1 ≤ km + 1 ∧ XP J R 38 43 nL xs D T n kc1 km1 54 222 (o + 1)) : XP J R 38 43 nL xs D T n (kc + 2) (km + 1) 54 222 o := by
  intro S hV
  obtain ⟨v1, v2, v3, t61, v5, v6, v7⟩ := id hV
  have o5 : (nI o < 5) ↔ o < 5 := nI_ltI (b := 5) (by omega) (by decide)
  have nV := nx_V T hV
  have e0 : Pn (nx T n S) = Pn S := rfl
  by_cases t13 : Pt S = 13
  · have hb := v5 (by omega)
    by_cases o4 : o < 5
    · obtain ⟨kc1, km1, k1, k2, hX'⟩ := hN o4
      rcases hX' (nx T n S) nV.1 with ⟨S2, g, xc, xm⟩ | ⟨b, hb2, xc, xm⟩
      · obtain ⟨g1, g2⟩ := PG_1 hV (by omega) g (j := 4) (Or.inl rfl)
        have gV := g.1
        have g160 : Pn S2 < 160 := by have := gV.1; have := gV.2.1; omega
        refine Or.inl ⟨em S2 4 0, g1, ?_, ?_⟩
        · intro dc M hd hC
          obtain ⟨d, rfl⟩ : ∃ d', dc = d' + 1 := ⟨dc - 1, by omega⟩
          obtain ⟨M1, a1, a2, a3⟩ := c_nx_38 J R nL xs D (d := d) (by omega) v2 v3 hC
          obtain ⟨M2, b1, b2, b3⟩ := xc d M1 (by omega) a2
          obtain ⟨M3, c1, c2, c3⟩ := c_em_38 J R nL xs D (d := d) (by omega) g160 b2 4 0
          have c1' : px_ex px_tab (d) 40 [Value.ref (43), Value.int (3), Value.int (0)] (hp (M2) (J) (R) (38) (43) nL xs (D)) = some (none, (hp (M3) (J) (R) (38) (43) nL xs (D))) := c1
          refine ⟨M3, ?_, c2, (a3.tr b3).tr c3⟩
          have h6 : M 37 6 = nI (Pt S) := hC.2.1.2.2.1
          rw [xX5_readNot, eX5_readNot_38_0, h6]
          simp (disch := omega) only [px_bd_s, px_psh_s, px_psh_n, px_vb_s, px_ib_s, px_wb_s, px_bo_s, px_bo_n, Bool.cond_decide, cond_true, cond_false, ite_not, Bool.and_true, if_true, if_false, not_true_eq_false, not_false_eq_true, i10, eq_self, decide_true, decide_false, Bool.or_true, Bool.true_or, Bool.or_false, Bool.false_or, Bool.false_eq_true, zs13, t13, eX5_readNot_38_15, o5, o4, eX5_readNot_38_22, a1, eX5_readNot_38_22_2, zp1, b1, eX5_readNot_38_22_7, c1', eX5_readNot_38_22_13]
        · intro c e dm M hd hC h61 h62
          obtain ⟨d, rfl⟩ : ∃ d', dm = d' + 1 := ⟨dm - 1, by omega⟩
          obtain ⟨M1, a1, a2, a3, a4, a5⟩ := m_opn J R nL xs D c e (d := d) (by omega) o4 hV hC h61 h62
          obtain ⟨M2, b1, b2, b3, b4, b5⟩ := xm c e d M1 (by omega) a2 a4 a5
          have hM3 : MP T n S2 (px_uR M2 67 (upd (M2 67) 62 (nI o))) := b2
          obtain ⟨M3, c1, c2, c3, c4, c5⟩ := m_em J R nL xs D c e (d := d) (by omega) g160 hM3 4 0
          have c1' : px_ex px_tab (d) 218 [Value.ref (67), Value.int (4), Value.int (0)] (hp (px_uR M2 67 (upd (M2 67) 62 (nI o))) (J) (R) (c) (e) nL xs (D)) = some (none, (hp (M3) (J) (R) (c) (e) nL xs (D))) := c1
          refine ⟨M3, ?_, c2, ((a3.tr b3).tr ((MF.rf M2).k 62 (by decide) (nI o))).tr c3, c4.trans b4, c5⟩
          have h6 : M 67 59 = nI (mtk (Pt S)) := hC.2.2.1.2.2.1
          have w := m_wr_n J R nL xs D c e (d := d) (by omega) h61
          have eo : nI (o + 1) - 1 = nI o := pk_sub (a := o + 1) (b := 1) (by omega)
          rw [xX12_not, eX12_not_0, w]
          simp (disch := omega) only [px_bd_s, px_psh_s, px_psh_n, px_vb_s, px_ib_s, px_wb_s, px_bo_s, px_bo_n, Bool.cond_decide, cond_true, cond_false, ite_not, Bool.and_true, if_true, if_false, not_true_eq_false, not_false_eq_true, i10, eq_self, decide_true, decide_false, Bool.or_true, Bool.true_or, Bool.or_false, Bool.false_or, Bool.false_eq_true, eX12_not_0_2, eX12_not_8, h6, mz13, t13, a1, eX12_not_8_6, b1, eX12_not_8_8, b5, eo, c1', eX12_not_8_18]
      · refine Or.inr ⟨b, hb2, ?_, ?_⟩
        · intro dc M hd hC
          obtain ⟨d, rfl⟩ : ∃ d', dc = d' + 1 := ⟨dc - 1, by omega⟩
          obtain ⟨M1, a1, a2, a3⟩ := c_nx_38 J R nL xs D (d := d) (by omega) v2 v3 hC
          obtain ⟨M2, b1, b2, b3⟩ := xc d M1 (by omega) a2
          obtain ⟨M3, c1, c2, c3⟩ := c_em_f_38 J R nL xs D (d := d) (by omega) b2 3 0
          refine ⟨M3, ?_, c2, (a3.tr b3).tr c3⟩
          have h6 : M 37 6 = nI (Pt S) := hC.2.1.2.2.1
          rw [xX5_readNot, eX5_readNot_38_0, h6]
          simp (disch := omega) only [px_bd_s, px_psh_s, px_psh_n, px_vb_s, px_ib_s, px_wb_s, px_bo_s, px_bo_n, Bool.cond_decide, cond_true, cond_false, ite_not, Bool.and_true, if_true, if_false, not_true_eq_false, not_false_eq_true, i10, eq_self, decide_true, decide_false, Bool.or_true, Bool.true_or, Bool.or_false, Bool.false_or, Bool.false_eq_true, zs13, t13, eX5_readNot_38_15, o5, o4, eX5_readNot_38_22, a1, eX5_readNot_38_22_2, zp1, b1, eX5_readNot_38_22_7, c1, eX5_readNot_38_22_13]
        · intro c e dm M hd hC h61 h62
          obtain ⟨d, rfl⟩ : ∃ d', dm = d' + 1 := ⟨dm - 1, by omega⟩
          obtain ⟨M1, a1, a2, a3, a4, a5⟩ := m_opn J R nL xs D c e (d := d) (by omega) o4 hV hC h61 h62
          obtain ⟨M2, N, b1, b2, b2', b3, b4, b5⟩ := xm c e d M1 (by omega) a2 a4 a5
          have nb := nV.2
          rw [e0] at b2'
          have hM3 : MN N (px_uR M2 67 (upd (M2 67) 62 (nI o))) := b2
          obtain ⟨M3, c1, c2, c3, c4, c5⟩ := m_em_f J R nL xs D c e (d := d) (by omega) (show N < 160 by omega) hM3 4 0
          refine ⟨M3, N + 1, ?_, c2, by omega, ((a3.tr b3).tr ((MF.rf M2).k 62 (by decide) (nI o))).tr c3, c4.trans b4, c5⟩
          have h6 : M 67 59 = nI (mtk (Pt S)) := hC.2.2.1.2.2.1
          have w := m_wr_n J R nL xs D c e (d := d) (by omega) h61
          have eo : nI (o + 1) - 1 = nI o := pk_sub (a := o + 1) (b := 1) (by omega)
          rw [xX12_not, eX12_not_0, w]
          simp (disch := omega) only [px_bd_s, px_psh_s, px_psh_n, px_vb_s, px_ib_s, px_wb_s, px_bo_s, px_bo_n, Bool.cond_decide, cond_true, cond_false, ite_not, Bool.and_true, if_true, if_false, not_true_eq_false, not_false_eq_true, i10, eq_self, decide_true, decide_false, Bool.or_true, Bool.true_or, Bool.or_false, Bool.false_or, Bool.false_eq_true, eX12_not_0_2, eX12_not_8, h6, mz13, t13, a1, eX12_not_8_6, b1, eX12_not_8_8, b5, eo, c1, eX12_not_8_18]
    · refine Or.inr ⟨Pb S, by omega, ?_, ?_⟩
      · intro dc M hd hC
        obtain ⟨d, rfl⟩ : ∃ d', dc = d' + 1 := ⟨dc - 1, by omega⟩
        refine ⟨M, ?_, hC.n hV, CF.rf _ _⟩
        have h6 : M 37 6 = nI (Pt S) := hC.2.1.2.2.1
        rw [xX5_readNot, eX5_readNot_38_0, h6]
        simp (disch := omega) only [px_bd_s, px_psh_s, px_psh_n, px_vb_s, px_ib_s, px_wb_s, px_bo_s, px_bo_n, Bool.cond_decide, cond_true, cond_false, ite_not, Bool.and_true, if_true, if_false, not_true_eq_false, not_false_eq_true, i10, eq_self, decide_true, decide_false, Bool.or_true, Bool.true_or, Bool.or_false, Bool.false_or, Bool.false_eq_true, zs13, t13, eX5_readNot_38_15, o5, o4]
      · intro c e dm M hd hC h61 h62
        obtain ⟨d, rfl⟩ : ∃ d', dm = d' + 1 := ⟨dm - 1, by omega⟩
        have o55 : o = 5 := by omega
        subst o55
        obtain ⟨M1, a1, a2, a3, a4, a5⟩ := m_opn_f J R nL xs D c e (d := d) (by omega) hV hC h61 h62
        have ow := m_not_w J R nL xs D c e (d := d) (by omega) (show Pb S ≤ 160 by omega) a4
        have hM3 : MN (Pn S) (px_uR M1 67 (upd (M1 67) 62 5)) := a2
        obtain ⟨M3, c1, c2, c3, c4, c5⟩ := m_em_f J R nL xs D c e (d := d) (by omega) (show Pn S < 160 by omega) hM3 4 0
        refine ⟨M3, Pn S + 1, ?_, c2, by omega, (a3.tr ((MF.rf M1).k 62 (by decide) 5)).tr c3, c4.trans a4, c5⟩
        have h6 : M 67 59 = nI (mtk (Pt S)) := hC.2.2.1.2.2.1
        have w := m_wr_n J R nL xs D c e (d := d) (by omega) h61
        have eo : (6 : Int32) - 1 = 5 := rfl
        rw [xX12_not, eX12_not_0, w]
        simp (disch := omega) only [px_bd_s, px_psh_s, px_psh_n, px_vb_s, px_ib_s, px_wb_s, px_bo_s, px_bo_n, Bool.cond_decide, cond_true, cond_false, ite_not, Bool.and_true, if_true, if_false, not_true_eq_false, not_false_eq_true, i10, eq_self, decide_true, decide_false, Bool.or_true, Bool.true_or, Bool.or_false, Bool.false_or, Bool.false_eq_true, eX12_not_0_2, eX12_not_8, h6, mz13, t13, a1, eX12_not_8_6, ow, eX12_not_8_8, a5, eo, c1, eX12_not_8_18]
  · have n0c : ∀ (d : Nat) (M M1 : Nat → Nat → Int32) (w : Int32), w = 0 ∨ w = 1 → CP 43 T n S M → px_ex px_tab (d + 1) 55 [Value.ref (37), Value.int (nI o)] (hp (M) (J) (R) (38) (43) nL xs (D)) = some (some (Value.int (w)), (hp (M1) (J) (R) (38) (43) nL xs (D))) → px_ex px_tab (d + 2) 54 [Value.ref (37), Value.int (nI o)] (hp (M) (J) (R) (38) (43) nL xs (D)) = some (some (Value.int (w)), (hp (M1) (J) (R) (38) (43) nL xs (D))) := by
      intro d M M1 w hw hC a1
      have h6 : M 37 6 = nI (Pt S) := hC.2.1.2.2.1
      rw [xX5_readNot, eX5_readNot_38_0, h6]
      rcases hw with rfl | rfl <;> simp (disch := omega) only [px_bd_s, px_psh_s, px_psh_n, px_vb_s, px_ib_s, px_wb_s, px_bo_s, px_bo_n, Bool.cond_decide, cond_true, cond_false, ite_not, Bool.and_true, if_true, if_false, not_true_eq_false, not_false_eq_true, i10, eq_self, decide_true, decide_false, Bool.or_true, Bool.true_or, Bool.or_false, Bool.false_or, Bool.false_eq_true, zs13, t13, a1, eX5_readNot_38_0_7]
    rcases hX S hV with ⟨S1, g, xc, xm⟩ | ⟨b, hb2, xc, xm⟩
    · have s61 := g.1.2.2.2.1
      have m0 : ∀ (c e d : Nat) (M M1 : Nat → Nat → Int32), 1 ≤ d → MP T n S M → M 67 61 = -1 → M1 67 61 = -1 → MP T n S1 M1 → px_ex px_tab (d) 223 [Value.ref (67)] (hp (M) (J) (R) (c) (e) nL xs (D)) = some (none, (hp (M1) (J) (R) (c) (e) nL xs (D))) → px_ex px_tab (d + 1) 222 [Value.ref (67)] (hp (M) (J) (R) (c) (e) nL xs (D)) = if Pt S1 = 60 ∨ Pt S1 = 61 then px_run (px_mk (kX12_not (px_ex px_tab (d)))) 72 ([some (Value.ref (67)), none], [], (hp (M1) (J) (R) (c) (e) nL xs (D))) else some (none, (hp (M1) (J) (R) (c) (e) nL xs (D))) := by
        intro c e d M M1 hd hC h61 h61' hC1 a1
        have h6 : M 67 59 = nI (mtk (Pt S)) := hC.2.2.1.2.2.1
        have h6' : M1 67 59 = nI (mtk (Pt S1)) := hC1.2.2.1.2.2.1
        have w := m_wr_n J R nL xs D c e (d := d) hd h61
        have w' := m_wr_n J R nL xs D c e (d := d) hd h61'
        rw [xX12_not, eX12_not_0, w]
        by_cases q1 : Pt S1 = 60
        · simp (disch := omega) only [px_bd_s, px_psh_s, px_psh_n, px_vb_s, px_ib_s, px_wb_s, px_bo_s, px_bo_n, Bool.cond_decide, cond_true, cond_false, ite_not, Bool.and_true, if_true, if_false, not_true_eq_false, not_false_eq_true, i10, eq_self, decide_true, decide_false, Bool.or_true, Bool.true_or, Bool.or_false, Bool.false_or, Bool.false_eq_true, eX12_not_0_2, eX12_not_8, h6, mz13, t13, eX12_not_43, a1, eX12_not_43_2, w', eX12_not_43_4, h6', mz60, q1, true_or]
        · by_cases q2 : Pt S1 = 61
          · simp (disch := omega) only [px_bd_s, px_psh_s, px_psh_n, px_vb_s, px_ib_s, px_wb_s, px_bo_s, px_bo_n, Bool.cond_decide, cond_true, cond_false, ite_not, Bool.and_true, if_true, if_false, not_true_eq_false, not_false_eq_true, i10, eq_self, decide_true, decide_false, Bool.or_true, Bool.true_or, Bool.or_false, Bool.false_or, Bool.false_eq_true, eX12_not_0_2, eX12_not_8, h6, mz13, t13, eX12_not_43, a1, eX12_not_43_2, w', eX12_not_43_4, h6', mz60, mz61, q1, q2, or_true, show ¬ (61 : Nat) = 60 from by decide]
          · simp (disch := omega) only [px_bd_s, px_psh_s, px_psh_n, px_vb_s, px_ib_s, px_wb_s, px_bo_s, px_bo_n, Bool.cond_decide, cond_true, cond_false, ite_not, Bool.and_true, if_true, if_false, not_true_eq_false, not_false_eq_true, i10, eq_self, decide_true, decide_false, Bool.or_true, Bool.true_or, Bool.or_false, Bool.false_or, Bool.false_eq_true, eX12_not_0_2, eX12_not_8, h6, mz13, t13, eX12_not_43, a1, eX12_not_43_2, w', eX12_not_43_4, h6', mz60, mz61, q1, q2, or_self, eX12_not_102]
      by_cases tc : Pt S1 = 60 ∨ Pt S1 = 61
      · obtain ⟨jm, hj1, hj2, hj3, wr, mr⟩ : ∃ (jm : Nat), jm ≤ 10 ∧ ¬ (jm = 0 ∨ jm = 1) ∧ ¬ (jm = 4 ∨ jm = 10) ∧ (∀ (d : Nat) (M M1 M2 M3 M4 : Nat → Nat → Int32) (w : Int32), w = 0 ∨ w = 1 → CP 43 T n S1 M1 → px_ex px_tab (d) 56 [Value.ref (37), Value.int (nI o)] (hp (M) (J) (R) (38) (43) nL xs (D)) = some (some (Value.int (1)), (hp (M1) (J) (R) (38) (43) nL xs (D))) → px_ex px_tab (d) 61 [Value.ref (37)] (hp (M1) (J) (R) (38) (43) nL xs (D)) = some (none, (hp (M2) (J) (R) (38) (43) nL xs (D))) → px_ex px_tab (d) 56 [Value.ref (37), Value.int (nI o)] (hp (M2) (J) (R) (38) (43) nL xs (D)) = some (some (Value.int (w)), (hp (M3) (J) (R) (38) (43) nL xs (D))) → px_ex px_tab (d) 40 [Value.ref (43), Value.int (nI (cls jm)), Value.int (0)] (hp (M3) (J) (R) (38) (43) nL xs (D)) = some (none, (hp (M4) (J) (R) (38) (43) nL xs (D))) → px_ex px_tab (d + 1) 55 [Value.ref (37), Value.int (nI o)] (hp (M) (J) (R) (38) (43) nL xs (D)) = some (some (Value.int (w)), (hp (M4) (J) (R) (38) (43) nL xs (D)))) ∧ (∀ (c e d : Nat) (M1 M2 M3 M4 : Nat → Nat → Int32), MP T n S1 M1 → px_ex px_tab (d) 211 [Value.ref (67)] (hp (M1) (J) (R) (c) (e) nL xs (D)) = some (none, (hp (M2) (J) (R) (c) (e) nL xs (D))) → px_ex px_tab (d) 223 [Value.ref (67)] (hp (M2) (J) (R) (c) (e) nL xs (D)) = some (none, (hp (M3) (J) (R) (c) (e) nL xs (D))) → px_ex px_tab (d) 218 [Value.ref (67), Value.int (nI jm), Value.int (0)] (hp (M3) (J) (R) (c) (e) nL xs (D)) = some (none, (hp (M4) (J) (R) (c) (e) nL xs (D))) → px_run (px_mk (kX12_not (px_ex px_tab (d)))) 72 ([some (Value.ref (67)), none], [], (hp (M1) (J) (R) (c) (e) nL xs (D))) = some (none, (hp (M4) (J) (R) (c) (e) nL xs (D)))) := by
          rcases tc with tc | tc
          · refine ⟨5, by omega, by omega, by omega, ?_, ?_⟩
            · intro d M M1 M2 M3 M4 w hw hC a1 b1 c1 d1
              have h6 : M1 37 6 = nI (Pt S1) := hC.2.1.2.2.1
              have d1' : px_ex px_tab (d) 40 [Value.ref (43), Value.int (7), Value.int (0)] (hp (M3) (J) (R) (38) (43) nL xs (D)) = some (none, (hp (M4) (J) (R) (38) (43) nL xs (D))) := d1
              rw [xX5_readCompared, eX5_readCompared_38_0, a1]
              rcases hw with rfl | rfl <;> simp (disch := omega) only [px_bd_s, px_psh_s, px_psh_n, px_vb_s, px_ib_s, px_wb_s, px_bo_s, px_bo_n, Bool.cond_decide, cond_true, cond_false, ite_not, Bool.and_true, if_true, if_false, not_true_eq_false, not_false_eq_true, i10, eq_self, decide_true, decide_false, Bool.or_true, Bool.true_or, Bool.or_false, Bool.false_or, Bool.false_eq_true, eX5_readCompared_38_0_3, eX5_readCompared_38_10, h6, zs60, tc, eX5_readCompared_38_30, eX5_readCompared_38_46, b1, eX5_readCompared_38_46_3, c1, eX5_readCompared_38_46_6, d1', eX5_readCompared_38_46_12]
            · intro c e d M1 M2 M3 M4 hC b1 c1 d1
              have h6 : M1 67 59 = nI (mtk (Pt S1)) := hC.2.2.1.2.2.1
              have d1' : px_ex px_tab (d) 218 [Value.ref (67), Value.int (5), Value.int (0)] (hp (M3) (J) (R) (c) (e) nL xs (D)) = some (none, (hp (M4) (J) (R) (c) (e) nL xs (D))) := d1
              simp (disch := omega) only [px_bd_s, px_psh_s, px_psh_n, px_vb_s, px_ib_s, px_wb_s, px_bo_s, px_bo_n, Bool.cond_decide, cond_true, cond_false, ite_not, Bool.and_true, if_true, if_false, not_true_eq_false, not_false_eq_true, i10, eq_self, decide_true, decide_false, Bool.or_true, Bool.true_or, Bool.or_false, Bool.false_or, Bool.false_eq_true, eX12_not_72, h6, mz60, tc, eX12_not_87, b1, eX12_not_87_3, c1, eX12_not_87_5, d1', eX12_not_87_9, eX12_not_102]
          · refine ⟨6, by omega, by omega, by omega, ?_, ?_⟩
            · intro d M M1 M2 M3 M4 w hw hC a1 b1 c1 d1
              have h6 : M1 37 6 = nI (Pt S1) := hC.2.1.2.2.1
              have d1' : px_ex px_tab (d) 40 [Value.ref (43), Value.int (8), Value.int (0)] (hp (M3) (J) (R) (38) (43) nL xs (D)) = some (none, (hp (M4) (J) (R) (38) (43) nL xs (D))) := d1
              rw [xX5_readCompared, eX5_readCompared_38_0, a1]
              rcases hw with rfl | rfl <;> simp (disch := omega) only [px_bd_s, px_psh_s, px_psh_n, px_vb_s, px_ib_s, px_wb_s, px_bo_s, px_bo_n, Bool.cond_decide, cond_true, cond_false, ite_not, Bool.and_true, if_true, if_false, not_true_eq_false, not_false_eq_true, i10, eq_self, decide_true, decide_false, Bool.or_true, Bool.true_or, Bool.or_false, Bool.false_or, Bool.false_eq_true, eX5_readCompared_38_0_3, eX5_readCompared_38_10, h6, zs60, zs61, tc, show ¬ (61 : Nat) = 60 from by decide, eX5_readCompared_38_30, eX5_readCompared_38_44, eX5_readCompared_38_46, b1, eX5_readCompared_38_46_3, c1, eX5_readCompared_38_46_6, d1', eX5_readCompared_38_46_12]
            · intro c e d M1 M2 M3 M4 hC b1 c1 d1
              have h6 : M1 67 59 = nI (mtk (Pt S1)) := hC.2.2.1.2.2.1
              have d1' : px_ex px_tab (d) 218 [Value.ref (67), Value.int (6), Value.int (0)] (hp (M3) (J) (R) (c) (e) nL xs (D)) = some (none, (hp (M4) (J) (R) (c) (e) nL xs (D))) := d1
              simp (disch := omega) only [px_bd_s, px_psh_s, px_psh_n, px_vb_s, px_ib_s, px_wb_s, px_bo_s, px_bo_n, Bool.cond_decide, cond_true, cond_false, ite_not, Bool.and_true, if_true, if_false, not_true_eq_false, not_false_eq_true, i10, eq_self, decide_true, decide_false, Bool.or_true, Bool.true_or, Bool.or_false, Bool.false_or, Bool.false_eq_true, eX12_not_72, h6, mz60, tc, show ¬ (61 : Nat) = 60 from by decide, eX12_not_85, eX12_not_87, b1, eX12_not_87_3, c1, eX12_not_87_5, d1', eX12_not_87_9, eX12_not_102]
        have gV := g.1
        have nV1 := nx_V T gV
        rcases hX (nx T n S1) nV1.1 with ⟨S2, g2, yc, ym⟩ | ⟨b, hb2, yc, ym⟩
        · obtain ⟨l1, l2, l3⟩ := PL_2 (j := jm) gV (by omega) g2 hj1 hj2 hj3
          have g160 : Pn S2 < 160 := by have := g2.1.1; have := g2.1.2.1; omega
          refine Or.inl ⟨em S2 jm 0, g.pl l1, ?_, ?_⟩
          · intro dc M hd hC
            obtain ⟨d, rfl⟩ : ∃ d', dc = d' + 2 := ⟨dc - 2, by omega⟩
            obtain ⟨M1, a1, a2, a3⟩ := xc d M (by omega) hC
            obtain ⟨M2, b1, b2, b3⟩ := c_nx_38 J R nL xs D (d := d) (by omega) gV.2.1 gV.2.2.1 a2
            obtain ⟨M3, c1, c2, c3⟩ := yc d M2 (by omega) b2
            obtain ⟨M4, d1, d2, d3⟩ := c_em_38 J R nL xs D (d := d) (by omega) g160 c2 jm 0
            exact ⟨M4, n0c d M M4 1 (Or.inr rfl) hC (wr d M M1 M2 M3 M4 1 (Or.inr rfl) a2 a1 b1 c1 d1), d2, ((a3.tr b3).tr c3).tr d3⟩
          · intro c e dm M hd hC h61 h62
            obtain ⟨d, rfl⟩ : ∃ d', dm = d' + 1 := ⟨dm - 1, by omega⟩
            obtain ⟨M1, a1, a2, a3, a4, a5⟩ := xm c e d M (by omega) hC h61 h62
            obtain ⟨M2, b1, b2, b3, b4, b5⟩ := m_nx J R nL xs D c e (d := d) (by omega) gV.2.1 gV.2.2.1 a2
            obtain ⟨M3, c1, c2, c3, c4, c5⟩ := ym c e d M2 (by omega) b2 (b4.trans a4) (b5.trans a5)
            obtain ⟨M4, d1, d2, d3, d4, d5⟩ := m_em J R nL xs D c e (d := d) (by omega) g160 c2 jm 0
            have r1 := m0 c e d M M1 (by omega) hC h61 a4 a2 a1
            rw [if_pos tc] at r1
            exact ⟨M4, r1.trans (mr c e d M1 M2 M3 M4 a2 b1 c1 d1), d2, ((a3.tr b3).tr c3).tr d3, d4.trans c4, d5.trans c5⟩
        · refine Or.inr ⟨b, hb2, ?_, ?_⟩
          · intro dc M hd hC
            obtain ⟨d, rfl⟩ : ∃ d', dc = d' + 2 := ⟨dc - 2, by omega⟩
            obtain ⟨M1, a1, a2, a3⟩ := xc d M (by omega) hC
            obtain ⟨M2, b1, b2, b3⟩ := c_nx_38 J R nL xs D (d := d) (by omega) gV.2.1 gV.2.2.1 a2
            obtain ⟨M3, c1, c2, c3⟩ := yc d M2 (by omega) b2
            obtain ⟨M4, d1, d2, d3⟩ := c_em_f_38 J R nL xs D (d := d) (by omega) c2 (nI (cls jm)) 0
            exact ⟨M4, n0c d M M4 0 (Or.inl rfl) hC (wr d M M1 M2 M3 M4 0 (Or.inl rfl) a2 a1 b1 c1 d1), d2, ((a3.tr b3).tr c3).tr d3⟩
          · intro c e dm M hd hC h61 h62
            obtain ⟨d, rfl⟩ : ∃ d', dm = d' + 1 := ⟨dm - 1, by omega⟩
            obtain ⟨M1, a1, a2, a3, a4, a5⟩ := xm c e d M (by omega) hC h61 h62
            obtain ⟨M2, b1, b2, b3, b4, b5⟩ := m_nx J R nL xs D c e (d := d) (by omega) gV.2.1 gV.2.2.1 a2
            obtain ⟨M3, N, c1, c2, c2', c3, c4, c5⟩ := ym c e d M2 (by omega) b2 (b4.trans a4) (b5.trans a5)
            have e1 : Pn (nx T n S1) = Pn S1 := rfl
            rw [e1] at c2'
            have g4 := g.2.2.2.1
            have nb := nV1.2
            have hb3 := gV.2.2.2.2.1 (by omega)
            obtain ⟨M4, d1, d2, d3, d4, d5⟩ := m_em_f J R nL xs D c e (d := d) (by omega) (show N < 160 by omega) c2 (nI jm) 0
            have r1 := m0 c e d M M1 (by omega) hC h61 a4 a2 a1
            rw [if_pos tc] at r1
            exact ⟨M4, N + 1, r1.trans (mr c e d M1 M2 M3 M4 a2 b1 c1 d1), d2, by omega, ((a3.tr b3).tr c3).tr d3, d4.trans c4, d5.trans c5⟩
      · refine Or.inl ⟨S1, g, ?_, ?_⟩
        · intro dc M hd hC
          obtain ⟨d, rfl⟩ : ∃ d', dc = d' + 2 := ⟨dc - 2, by omega⟩
          obtain ⟨M1, a1, a2, a3⟩ := xc d M (by omega) hC
          refine ⟨M1, n0c d M M1 1 (Or.inr rfl) hC ?_, a2, a3⟩
          have h6 : M1 37 6 = nI (Pt S1) := a2.2.1.2.2.1
          have q1 : ¬ Pt S1 = 60 := fun q => tc (Or.inl q)
          have q2 : ¬ Pt S1 = 61 := fun q => tc (Or.inr q)
          rw [xX5_readCompared, eX5_readCompared_38_0, a1]
          simp (disch := omega) only [px_bd_s, px_psh_s, px_psh_n, px_vb_s, px_ib_s, px_wb_s, px_bo_s, px_bo_n, Bool.cond_decide, cond_true, cond_false, ite_not, Bool.and_true, if_true, if_false, not_true_eq_false, not_false_eq_true, i10, eq_self, decide_true, decide_false, Bool.or_true, Bool.true_or, Bool.or_false, Bool.false_or, Bool.false_eq_true, eX5_readCompared_38_0_3, eX5_readCompared_38_10, h6, zs60, zs61, q1, q2]
        · intro c e dm M hd hC h61 h62
          obtain ⟨d, rfl⟩ : ∃ d', dm = d' + 1 := ⟨dm - 1, by omega⟩
          obtain ⟨M1, a1, a2, a3, a4, a5⟩ := xm c e d M (by omega) hC h61 h62
          have r1 := m0 c e d M M1 (by omega) hC h61 a4 a2 a1
          rw [if_neg tc] at r1
          exact ⟨M1, r1, a2, a3, a4, a5⟩
    · refine Or.inr ⟨b, hb2, ?_, ?_⟩
      · intro dc M hd hC
        obtain ⟨d, rfl⟩ : ∃ d', dc = d' + 2 := ⟨dc - 2, by omega⟩
        obtain ⟨M1, a1, a2, a3⟩ := xc d M (by omega) hC
        refine ⟨M1, n0c d M M1 0 (Or.inl rfl) hC ?_, a2, a3⟩
        rw [xX5_readCompared, eX5_readCompared_38_0, a1]
        simp (disch := omega) only [px_bd_s, px_psh_s, px_psh_n, px_vb_s, px_ib_s, px_wb_s, px_bo_s, px_bo_n, Bool.cond_decide, cond_true, cond_false, ite_not, Bool.and_true, if_true, if_false, not_true_eq_false, not_false_eq_true, i10, eq_self, decide_true, decide_false, Bool.or_true, Bool.true_or, Bool.or_false, Bool.false_or, Bool.false_eq_true, eX5_readCompared_38_0_3]
      · intro c e dm M hd hC h61 h62
        obtain ⟨d, rfl⟩ : ∃ d', dm = d' + 1 := ⟨dm - 1, by omega⟩
        obtain ⟨M1, N, a1, a2, a2', a3, a4, a5⟩ := xm c e d M (by omega) hC h61 h62
        have h6 : M 67 59 = nI (mtk (Pt S)) := hC.2.2.1.2.2.1
        have w := m_wr_n J R nL xs D c e (d := d) (by omega) h61
        have w' := m_wr_y J R nL xs D c e (d := d) (by omega) (show b ≤ 160 by omega) a4
        refine ⟨M1, N, ?_, a2, a2', a3, a4, a5⟩
        rw [xX12_not, eX12_not_0, w]
        simp (disch := omega) only [px_bd_s, px_psh_s, px_psh_n, px_vb_s, px_ib_s, px_wb_s, px_bo_s, px_bo_n, Bool.cond_decide, cond_true, cond_false, ite_not, Bool.and_true, if_true, if_false, not_true_eq_false, not_false_eq_true, i10, eq_self, decide_true, decide_false, Bool.or_true, Bool.true_or, Bool.or_false, Bool.false_or, Bool.false_eq_true, eX12_not_0_2, eX12_not_8, h6, mz13, t13, eX12_not_43, a1, eX12_not_43_2, w', eX12_not_43_4, eX12_not_102]
/-- all levels -/
theorem p_lev_38 {T : Nat → Nat} {n : Nat} (hn : n ≤ 160) : ∀ (k o : Nat), o + k = 5 → XP J R 38 43 nL xs D T n (5 + 8 * k) (5 + 6 * k) 58 225 o ∧ XP J R 38 43 nL xs D T n (5 + 8 * k + 4) (5 + 6 * k + 3) 54 222 o ∧ XP J R 38 43 nL xs D T n (5 + 8 * k + 6) (5 + 6 * k + 5) 52 220 o := by
  have st : ∀ (k o : Nat), o + k = 5 → XP J R 38 43 nL xs D T n (5 + 8 * k) (5 + 6 * k) 58 225 o → (o < 5 → ∃ kc1 km1, kc1 + 1 ≤ 5 + 8 * k + 2 + 2 ∧ km1 + 1 ≤ 5 + 6 * k + 2 + 1 ∧ XP J R 38 43 nL xs D T n kc1 km1 54 222 (o + 1)) → XP J R 38 43 nL xs D T n (5 + 8 * k) (5 + 6 * k) 58 225 o ∧ XP J R 38 43 nL xs D T n (5 + 8 * k + 4) (5 + 6 * k + 3) 54 222 o ∧ XP J R 38 43 nL xs D T n (5 + 8 * k + 6) (5 + 6 * k + 5) 52 220 o := by
    intro k o hk h1 hN
    have h2 := p_trm_38 J R nL xs D hn (by omega) (by omega) h1
    have h3 := p_sum_38 J R nL xs D hn (by omega) (by omega) h2
    have h4 := p_not_38 J R nL xs D hn (by omega) (by omega) (by omega) h3 hN
    have h5 := p_and_38 J R nL xs D hn (by omega) (by omega) h4
    have h6 := p_or_38 J R nL xs D hn (by omega) (by omega) h5
    exact ⟨h1, h4, h6⟩
  intro k
  induction k with
  | zero =>
    intro o hk
    exact st 0 o hk (p_one_38 J R nL xs D (by omega) (by omega) (by omega) (fun q => by omega) (fun q => by omega)) (fun q => by omega)
  | succ k ih =>
    intro o hk
    obtain ⟨i1, i2, i3⟩ := ih (o + 1) (by omega)
    exact st (k + 1) o hk (p_one_38 J R nL xs D (by omega) (by omega) (by omega) (fun _ => ⟨_, _, by omega, by omega, i1⟩) (fun _ => ⟨_, _, by omega, by omega, i3⟩)) (fun _ => ⟨_, _, by omega, by omega, i2⟩)
theorem p_not_43 {T : Nat → Nat} {n kc km o : Nat} (hn : n ≤ 160) (ho : o ≤ 5) (hkc : 3 ≤ kc) (hkm : 4 ≤ km) (hX : XP J R 43 38 nL xs D T n kc km 56 223 o) (hN : o < 5 → ∃ kc1 km1, kc1 + 1 ≤ kc + 2 ∧ km1 + 1 ≤ km + 1 ∧ XP J R 43 38 nL xs D T n kc1 km1 54 222 (o + 1)) : XP J R 43 38 nL xs D T n (kc + 2) (km + 1) 54 222 o := by
  intro S hV
  obtain ⟨v1, v2, v3, t61, v5, v6, v7⟩ := id hV
  have o5 : (nI o < 5) ↔ o < 5 := nI_ltI (b := 5) (by omega) (by decide)
  have nV := nx_V T hV
  have e0 : Pn (nx T n S) = Pn S := rfl
  by_cases t13 : Pt S = 13
  · have hb := v5 (by omega)
    by_cases o4 : o < 5
    · obtain ⟨kc1, km1, k1, k2, hX'⟩ := hN o4
      rcases hX' (nx T n S) nV.1 with ⟨S2, g, xc, xm⟩ | ⟨b, hb2, xc, xm⟩
      · obtain ⟨g1, g2⟩ := PG_1 hV (by omega) g (j := 4) (Or.inl rfl)
        have gV := g.1
        have g160 : Pn S2 < 160 := by have := gV.1; have := gV.2.1; omega
        refine Or.inl ⟨em S2 4 0, g1, ?_, ?_⟩
        · intro dc M hd hC
          obtain ⟨d, rfl⟩ : ∃ d', dc = d' + 1 := ⟨dc - 1, by omega⟩
          obtain ⟨M1, a1, a2, a3⟩ := c_nx_43 J R nL xs D (d := d) (by omega) v2 v3 hC
          obtain ⟨M2, b1, b2, b3⟩ := xc d M1 (by omega) a2
          obtain ⟨M3, c1, c2, c3⟩ := c_em_43 J R nL xs D (d := d) (by omega) g160 b2 4 0
          have c1' : px_ex px_tab (d) 40 [Value.ref (38), Value.int (3), Value.int (0)] (hp (M2) (J) (R) (43) (38) nL xs (D)) = some (none, (hp (M3) (J) (R) (43) (38) nL xs (D))) := c1
          refine ⟨M3, ?_, c2, (a3.tr b3).tr c3⟩
          have h6 : M 37 6 = nI (Pt S) := hC.2.1.2.2.1
          rw [xX5_readNot, eX5_readNot_43_0, h6]
          simp (disch := omega) only [px_bd_s, px_psh_s, px_psh_n, px_vb_s, px_ib_s, px_wb_s, px_bo_s, px_bo_n, Bool.cond_decide, cond_true, cond_false, ite_not, Bool.and_true, if_true, if_false, not_true_eq_false, not_false_eq_true, i10, eq_self, decide_true, decide_false, Bool.or_true, Bool.true_or, Bool.or_false, Bool.false_or, Bool.false_eq_true, zs13, t13, eX5_readNot_43_15, o5, o4, eX5_readNot_43_22, a1, eX5_readNot_43_22_2, zp1, b1, eX5_readNot_43_22_7, c1', eX5_readNot_43_22_13]
        · intro c e dm M hd hC h61 h62
          obtain ⟨d, rfl⟩ : ∃ d', dm = d' + 1 := ⟨dm - 1, by omega⟩
          obtain ⟨M1, a1, a2, a3, a4, a5⟩ := m_opn J R nL xs D c e (d := d) (by omega) o4 hV hC h61 h62
          obtain ⟨M2, b1, b2, b3, b4, b5⟩ := xm c e d M1 (by omega) a2 a4 a5
          have hM3 : MP T n S2 (px_uR M2 67 (upd (M2 67) 62 (nI o))) := b2
          obtain ⟨M3, c1, c2, c3, c4, c5⟩ := m_em J R nL xs D c e (d := d) (by omega) g160 hM3 4 0
          have c1' : px_ex px_tab (d) 218 [Value.ref (67), Value.int (4), Value.int (0)] (hp (px_uR M2 67 (upd (M2 67) 62 (nI o))) (J) (R) (c) (e) nL xs (D)) = some (none, (hp (M3) (J) (R) (c) (e) nL xs (D))) := c1
          refine ⟨M3, ?_, c2, ((a3.tr b3).tr ((MF.rf M2).k 62 (by decide) (nI o))).tr c3, c4.trans b4, c5⟩
          have h6 : M 67 59 = nI (mtk (Pt S)) := hC.2.2.1.2.2.1
          have w := m_wr_n J R nL xs D c e (d := d) (by omega) h61
          have eo : nI (o + 1) - 1 = nI o := pk_sub (a := o + 1) (b := 1) (by omega)
          rw [xX12_not, eX12_not_0, w]
          simp (disch := omega) only [px_bd_s, px_psh_s, px_psh_n, px_vb_s, px_ib_s, px_wb_s, px_bo_s, px_bo_n, Bool.cond_decide, cond_true, cond_false, ite_not, Bool.and_true, if_true, if_false, not_true_eq_false, not_false_eq_true, i10, eq_self, decide_true, decide_false, Bool.or_true, Bool.true_or, Bool.or_false, Bool.false_or, Bool.false_eq_true, eX12_not_0_2, eX12_not_8, h6, mz13, t13, a1, eX12_not_8_6, b1, eX12_not_8_8, b5, eo, c1', eX12_not_8_18]
      · refine Or.inr ⟨b, hb2, ?_, ?_⟩
        · intro dc M hd hC
          obtain ⟨d, rfl⟩ : ∃ d', dc = d' + 1 := ⟨dc - 1, by omega⟩
          obtain ⟨M1, a1, a2, a3⟩ := c_nx_43 J R nL xs D (d := d) (by omega) v2 v3 hC
          obtain ⟨M2, b1, b2, b3⟩ := xc d M1 (by omega) a2
          obtain ⟨M3, c1, c2, c3⟩ := c_em_f_43 J R nL xs D (d := d) (by omega) b2 3 0
          refine ⟨M3, ?_, c2, (a3.tr b3).tr c3⟩
          have h6 : M 37 6 = nI (Pt S) := hC.2.1.2.2.1
          rw [xX5_readNot, eX5_readNot_43_0, h6]
          simp (disch := omega) only [px_bd_s, px_psh_s, px_psh_n, px_vb_s, px_ib_s, px_wb_s, px_bo_s, px_bo_n, Bool.cond_decide, cond_true, cond_false, ite_not, Bool.and_true, if_true, if_false, not_true_eq_false, not_false_eq_true, i10, eq_self, decide_true, decide_false, Bool.or_true, Bool.true_or, Bool.or_false, Bool.false_or, Bool.false_eq_true, zs13, t13, eX5_readNot_43_15, o5, o4, eX5_readNot_43_22, a1, eX5_readNot_43_22_2, zp1, b1, eX5_readNot_43_22_7, c1, eX5_readNot_43_22_13]
        · intro c e dm M hd hC h61 h62
          obtain ⟨d, rfl⟩ : ∃ d', dm = d' + 1 := ⟨dm - 1, by omega⟩
          obtain ⟨M1, a1, a2, a3, a4, a5⟩ := m_opn J R nL xs D c e (d := d) (by omega) o4 hV hC h61 h62
          obtain ⟨M2, N, b1, b2, b2', b3, b4, b5⟩ := xm c e d M1 (by omega) a2 a4 a5
          have nb := nV.2
          rw [e0] at b2'
          have hM3 : MN N (px_uR M2 67 (upd (M2 67) 62 (nI o))) := b2
          obtain ⟨M3, c1, c2, c3, c4, c5⟩ := m_em_f J R nL xs D c e (d := d) (by omega) (show N < 160 by omega) hM3 4 0
          refine ⟨M3, N + 1, ?_, c2, by omega, ((a3.tr b3).tr ((MF.rf M2).k 62 (by decide) (nI o))).tr c3, c4.trans b4, c5⟩
          have h6 : M 67 59 = nI (mtk (Pt S)) := hC.2.2.1.2.2.1
          have w := m_wr_n J R nL xs D c e (d := d) (by omega) h61
          have eo : nI (o + 1) - 1 = nI o := pk_sub (a := o + 1) (b := 1) (by omega)
          rw [xX12_not, eX12_not_0, w]
          simp (disch := omega) only [px_bd_s, px_psh_s, px_psh_n, px_vb_s, px_ib_s, px_wb_s, px_bo_s, px_bo_n, Bool.cond_decide, cond_true, cond_false, ite_not, Bool.and_true, if_true, if_false, not_true_eq_false, not_false_eq_true, i10, eq_self, decide_true, decide_false, Bool.or_true, Bool.true_or, Bool.or_false, Bool.false_or, Bool.false_eq_true, eX12_not_0_2, eX12_not_8, h6, mz13, t13, a1, eX12_not_8_6, b1, eX12_not_8_8, b5, eo, c1, eX12_not_8_18]
    · refine Or.inr ⟨Pb S, by omega, ?_, ?_⟩
      · intro dc M hd hC
        obtain ⟨d, rfl⟩ : ∃ d', dc = d' + 1 := ⟨dc - 1, by omega⟩
        refine ⟨M, ?_, hC.n hV, CF.rf _ _⟩
        have h6 : M 37 6 = nI (Pt S) := hC.2.1.2.2.1
        rw [xX5_readNot, eX5_readNot_43_0, h6]
        simp (disch := omega) only [px_bd_s, px_psh_s, px_psh_n, px_vb_s, px_ib_s, px_wb_s, px_bo_s, px_bo_n, Bool.cond_decide, cond_true, cond_false, ite_not, Bool.and_true, if_true, if_false, not_true_eq_false, not_false_eq_true, i10, eq_self, decide_true, decide_false, Bool.or_true, Bool.true_or, Bool.or_false, Bool.false_or, Bool.false_eq_true, zs13, t13, eX5_readNot_43_15, o5, o4]
      · intro c e dm M hd hC h61 h62
        obtain ⟨d, rfl⟩ : ∃ d', dm = d' + 1 := ⟨dm - 1, by omega⟩
        have o55 : o = 5 := by omega
        subst o55
        obtain ⟨M1, a1, a2, a3, a4, a5⟩ := m_opn_f J R nL xs D c e (d := d) (by omega) hV hC h61 h62
        have ow := m_not_w J R nL xs D c e (d := d) (by omega) (show Pb S ≤ 160 by omega) a4
        have hM3 : MN (Pn S) (px_uR M1 67 (upd (M1 67) 62 5)) := a2
        obtain ⟨M3, c1, c2, c3, c4, c5⟩ := m_em_f J R nL xs D c e (d := d) (by omega) (show Pn S < 160 by omega) hM3 4 0
        refine ⟨M3, Pn S + 1, ?_, c2, by omega, (a3.tr ((MF.rf M1).k 62 (by decide) 5)).tr c3, c4.trans a4, c5⟩
        have h6 : M 67 59 = nI (mtk (Pt S)) := hC.2.2.1.2.2.1
        have w := m_wr_n J R nL xs D c e (d := d) (by omega) h61
        have eo : (6 : Int32) - 1 = 5 := rfl
        rw [xX12_not, eX12_not_0, w]
        simp (disch := omega) only [px_bd_s, px_psh_s, px_psh_n, px_vb_s, px_ib_s, px_wb_s, px_bo_s, px_bo_n, Bool.cond_decide, cond_true, cond_false, ite_not, Bool.and_true, if_true, if_false, not_true_eq_false, not_false_eq_true, i10, eq_self, decide_true, decide_false, Bool.or_true, Bool.true_or, Bool.or_false, Bool.false_or, Bool.false_eq_true, eX12_not_0_2, eX12_not_8, h6, mz13, t13, a1, eX12_not_8_6, ow, eX12_not_8_8, a5, eo, c1, eX12_not_8_18]
  · have n0c : ∀ (d : Nat) (M M1 : Nat → Nat → Int32) (w : Int32), w = 0 ∨ w = 1 → CP 38 T n S M → px_ex px_tab (d + 1) 55 [Value.ref (37), Value.int (nI o)] (hp (M) (J) (R) (43) (38) nL xs (D)) = some (some (Value.int (w)), (hp (M1) (J) (R) (43) (38) nL xs (D))) → px_ex px_tab (d + 2) 54 [Value.ref (37), Value.int (nI o)] (hp (M) (J) (R) (43) (38) nL xs (D)) = some (some (Value.int (w)), (hp (M1) (J) (R) (43) (38) nL xs (D))) := by
      intro d M M1 w hw hC a1
      have h6 : M 37 6 = nI (Pt S) := hC.2.1.2.2.1
      rw [xX5_readNot, eX5_readNot_43_0, h6]
      rcases hw with rfl | rfl <;> simp (disch := omega) only [px_bd_s, px_psh_s, px_psh_n, px_vb_s, px_ib_s, px_wb_s, px_bo_s, px_bo_n, Bool.cond_decide, cond_true, cond_false, ite_not, Bool.and_true, if_true, if_false, not_true_eq_false, not_false_eq_true, i10, eq_self, decide_true, decide_false, Bool.or_true, Bool.true_or, Bool.or_false, Bool.false_or, Bool.false_eq_true, zs13, t13, a1, eX5_readNot_43_0_7]
    rcases hX S hV with ⟨S1, g, xc, xm⟩ | ⟨b, hb2, xc, xm⟩
    · have s61 := g.1.2.2.2.1
      have m0 : ∀ (c e d : Nat) (M M1 : Nat → Nat → Int32), 1 ≤ d → MP T n S M → M 67 61 = -1 → M1 67 61 = -1 → MP T n S1 M1 → px_ex px_tab (d) 223 [Value.ref (67)] (hp (M) (J) (R) (c) (e) nL xs (D)) = some (none, (hp (M1) (J) (R) (c) (e) nL xs (D))) → px_ex px_tab (d + 1) 222 [Value.ref (67)] (hp (M) (J) (R) (c) (e) nL xs (D)) = if Pt S1 = 60 ∨ Pt S1 = 61 then px_run (px_mk (kX12_not (px_ex px_tab (d)))) 72 ([some (Value.ref (67)), none], [], (hp (M1) (J) (R) (c) (e) nL xs (D))) else some (none, (hp (M1) (J) (R) (c) (e) nL xs (D))) := by
        intro c e d M M1 hd hC h61 h61' hC1 a1
        have h6 : M 67 59 = nI (mtk (Pt S)) := hC.2.2.1.2.2.1
        have h6' : M1 67 59 = nI (mtk (Pt S1)) := hC1.2.2.1.2.2.1
        have w := m_wr_n J R nL xs D c e (d := d) hd h61
        have w' := m_wr_n J R nL xs D c e (d := d) hd h61'
        rw [xX12_not, eX12_not_0, w]
        by_cases q1 : Pt S1 = 60
        · simp (disch := omega) only [px_bd_s, px_psh_s, px_psh_n, px_vb_s, px_ib_s, px_wb_s, px_bo_s, px_bo_n, Bool.cond_decide, cond_true, cond_false, ite_not, Bool.and_true, if_true, if_false, not_true_eq_false, not_false_eq_true, i10, eq_self, decide_true, decide_false, Bool.or_true, Bool.true_or, Bool.or_false, Bool.false_or, Bool.false_eq_true, eX12_not_0_2, eX12_not_8, h6, mz13, t13, eX12_not_43, a1, eX12_not_43_2, w', eX12_not_43_4, h6', mz60, q1, true_or]
        · by_cases q2 : Pt S1 = 61
          · simp (disch := omega) only [px_bd_s, px_psh_s, px_psh_n, px_vb_s, px_ib_s, px_wb_s, px_bo_s, px_bo_n, Bool.cond_decide, cond_true, cond_false, ite_not, Bool.and_true, if_true, if_false, not_true_eq_false, not_false_eq_true, i10, eq_self, decide_true, decide_false, Bool.or_true, Bool.true_or, Bool.or_false, Bool.false_or, Bool.false_eq_true, eX12_not_0_2, eX12_not_8, h6, mz13, t13, eX12_not_43, a1, eX12_not_43_2, w', eX12_not_43_4, h6', mz60, mz61, q1, q2, or_true, show ¬ (61 : Nat) = 60 from by decide]
          · simp (disch := omega) only [px_bd_s, px_psh_s, px_psh_n, px_vb_s, px_ib_s, px_wb_s, px_bo_s, px_bo_n, Bool.cond_decide, cond_true, cond_false, ite_not, Bool.and_true, if_true, if_false, not_true_eq_false, not_false_eq_true, i10, eq_self, decide_true, decide_false, Bool.or_true, Bool.true_or, Bool.or_false, Bool.false_or, Bool.false_eq_true, eX12_not_0_2, eX12_not_8, h6, mz13, t13, eX12_not_43, a1, eX12_not_43_2, w', eX12_not_43_4, h6', mz60, mz61, q1, q2, or_self, eX12_not_102]
      by_cases tc : Pt S1 = 60 ∨ Pt S1 = 61
      · obtain ⟨jm, hj1, hj2, hj3, wr, mr⟩ : ∃ (jm : Nat), jm ≤ 10 ∧ ¬ (jm = 0 ∨ jm = 1) ∧ ¬ (jm = 4 ∨ jm = 10) ∧ (∀ (d : Nat) (M M1 M2 M3 M4 : Nat → Nat → Int32) (w : Int32), w = 0 ∨ w = 1 → CP 38 T n S1 M1 → px_ex px_tab (d) 56 [Value.ref (37), Value.int (nI o)] (hp (M) (J) (R) (43) (38) nL xs (D)) = some (some (Value.int (1)), (hp (M1) (J) (R) (43) (38) nL xs (D))) → px_ex px_tab (d) 61 [Value.ref (37)] (hp (M1) (J) (R) (43) (38) nL xs (D)) = some (none, (hp (M2) (J) (R) (43) (38) nL xs (D))) → px_ex px_tab (d) 56 [Value.ref (37), Value.int (nI o)] (hp (M2) (J) (R) (43) (38) nL xs (D)) = some (some (Value.int (w)), (hp (M3) (J) (R) (43) (38) nL xs (D))) → px_ex px_tab (d) 40 [Value.ref (38), Value.int (nI (cls jm)), Value.int (0)] (hp (M3) (J) (R) (43) (38) nL xs (D)) = some (none, (hp (M4) (J) (R) (43) (38) nL xs (D))) → px_ex px_tab (d + 1) 55 [Value.ref (37), Value.int (nI o)] (hp (M) (J) (R) (43) (38) nL xs (D)) = some (some (Value.int (w)), (hp (M4) (J) (R) (43) (38) nL xs (D)))) ∧ (∀ (c e d : Nat) (M1 M2 M3 M4 : Nat → Nat → Int32), MP T n S1 M1 → px_ex px_tab (d) 211 [Value.ref (67)] (hp (M1) (J) (R) (c) (e) nL xs (D)) = some (none, (hp (M2) (J) (R) (c) (e) nL xs (D))) → px_ex px_tab (d) 223 [Value.ref (67)] (hp (M2) (J) (R) (c) (e) nL xs (D)) = some (none, (hp (M3) (J) (R) (c) (e) nL xs (D))) → px_ex px_tab (d) 218 [Value.ref (67), Value.int (nI jm), Value.int (0)] (hp (M3) (J) (R) (c) (e) nL xs (D)) = some (none, (hp (M4) (J) (R) (c) (e) nL xs (D))) → px_run (px_mk (kX12_not (px_ex px_tab (d)))) 72 ([some (Value.ref (67)), none], [], (hp (M1) (J) (R) (c) (e) nL xs (D))) = some (none, (hp (M4) (J) (R) (c) (e) nL xs (D)))) := by
          rcases tc with tc | tc
          · refine ⟨5, by omega, by omega, by omega, ?_, ?_⟩
            · intro d M M1 M2 M3 M4 w hw hC a1 b1 c1 d1
              have h6 : M1 37 6 = nI (Pt S1) := hC.2.1.2.2.1
              have d1' : px_ex px_tab (d) 40 [Value.ref (38), Value.int (7), Value.int (0)] (hp (M3) (J) (R) (43) (38) nL xs (D)) = some (none, (hp (M4) (J) (R) (43) (38) nL xs (D))) := d1
              rw [xX5_readCompared, eX5_readCompared_43_0, a1]
              rcases hw with rfl | rfl <;> simp (disch := omega) only [px_bd_s, px_psh_s, px_psh_n, px_vb_s, px_ib_s, px_wb_s, px_bo_s, px_bo_n, Bool.cond_decide, cond_true, cond_false, ite_not, Bool.and_true, if_true, if_false, not_true_eq_false, not_false_eq_true, i10, eq_self, decide_true, decide_false, Bool.or_true, Bool.true_or, Bool.or_false, Bool.false_or, Bool.false_eq_true, eX5_readCompared_43_0_3, eX5_readCompared_43_10, h6, zs60, tc, eX5_readCompared_43_30, eX5_readCompared_43_46, b1, eX5_readCompared_43_46_3, c1, eX5_readCompared_43_46_6, d1', eX5_readCompared_43_46_12]
            · intro c e d M1 M2 M3 M4 hC b1 c1 d1
              have h6 : M1 67 59 = nI (mtk (Pt S1)) := hC.2.2.1.2.2.1
              have d1' : px_ex px_tab (d) 218 [Value.ref (67), Value.int (5), Value.int (0)] (hp (M3) (J) (R) (c) (e) nL xs (D)) = some (none, (hp (M4) (J) (R) (c) (e) nL xs (D))) := d1
              simp (disch := omega) only [px_bd_s, px_psh_s, px_psh_n, px_vb_s, px_ib_s, px_wb_s, px_bo_s, px_bo_n, Bool.cond_decide, cond_true, cond_false, ite_not, Bool.and_true, if_true, if_false, not_true_eq_false, not_false_eq_true, i10, eq_self, decide_true, decide_false, Bool.or_true, Bool.true_or, Bool.or_false, Bool.false_or, Bool.false_eq_true, eX12_not_72, h6, mz60, tc, eX12_not_87, b1, eX12_not_87_3, c1, eX12_not_87_5, d1', eX12_not_87_9, eX12_not_102]
          · refine ⟨6, by omega, by omega, by omega, ?_, ?_⟩
            · intro d M M1 M2 M3 M4 w hw hC a1 b1 c1 d1
              have h6 : M1 37 6 = nI (Pt S1) := hC.2.1.2.2.1
              have d1' : px_ex px_tab (d) 40 [Value.ref (38), Value.int (8), Value.int (0)] (hp (M3) (J) (R) (43) (38) nL xs (D)) = some (none, (hp (M4) (J) (R) (43) (38) nL xs (D))) := d1
              rw [xX5_readCompared, eX5_readCompared_43_0, a1]
              rcases hw with rfl | rfl <;> simp (disch := omega) only [px_bd_s, px_psh_s, px_psh_n, px_vb_s, px_ib_s, px_wb_s, px_bo_s, px_bo_n, Bool.cond_decide, cond_true, cond_false, ite_not, Bool.and_true, if_true, if_false, not_true_eq_false, not_false_eq_true, i10, eq_self, decide_true, decide_false, Bool.or_true, Bool.true_or, Bool.or_false, Bool.false_or, Bool.false_eq_true, eX5_readCompared_43_0_3, eX5_readCompared_43_10, h6, zs60, zs61, tc, show ¬ (61 : Nat) = 60 from by decide, eX5_readCompared_43_30, eX5_readCompared_43_44, eX5_readCompared_43_46, b1, eX5_readCompared_43_46_3, c1, eX5_readCompared_43_46_6, d1', eX5_readCompared_43_46_12]
            · intro c e d M1 M2 M3 M4 hC b1 c1 d1
              have h6 : M1 67 59 = nI (mtk (Pt S1)) := hC.2.2.1.2.2.1
              have d1' : px_ex px_tab (d) 218 [Value.ref (67), Value.int (6), Value.int (0)] (hp (M3) (J) (R) (c) (e) nL xs (D)) = some (none, (hp (M4) (J) (R) (c) (e) nL xs (D))) := d1
              simp (disch := omega) only [px_bd_s, px_psh_s, px_psh_n, px_vb_s, px_ib_s, px_wb_s, px_bo_s, px_bo_n, Bool.cond_decide, cond_true, cond_false, ite_not, Bool.and_true, if_true, if_false, not_true_eq_false, not_false_eq_true, i10, eq_self, decide_true, decide_false, Bool.or_true, Bool.true_or, Bool.or_false, Bool.false_or, Bool.false_eq_true, eX12_not_72, h6, mz60, tc, show ¬ (61 : Nat) = 60 from by decide, eX12_not_85, eX12_not_87, b1, eX12_not_87_3, c1, eX12_not_87_5, d1', eX12_not_87_9, eX12_not_102]
        have gV := g.1
        have nV1 := nx_V T gV
        rcases hX (nx T n S1) nV1.1 with ⟨S2, g2, yc, ym⟩ | ⟨b, hb2, yc, ym⟩
        · obtain ⟨l1, l2, l3⟩ := PL_2 (j := jm) gV (by omega) g2 hj1 hj2 hj3
          have g160 : Pn S2 < 160 := by have := g2.1.1; have := g2.1.2.1; omega
          refine Or.inl ⟨em S2 jm 0, g.pl l1, ?_, ?_⟩
          · intro dc M hd hC
            obtain ⟨d, rfl⟩ : ∃ d', dc = d' + 2 := ⟨dc - 2, by omega⟩
            obtain ⟨M1, a1, a2, a3⟩ := xc d M (by omega) hC
            obtain ⟨M2, b1, b2, b3⟩ := c_nx_43 J R nL xs D (d := d) (by omega) gV.2.1 gV.2.2.1 a2
            obtain ⟨M3, c1, c2, c3⟩ := yc d M2 (by omega) b2
            obtain ⟨M4, d1, d2, d3⟩ := c_em_43 J R nL xs D (d := d) (by omega) g160 c2 jm 0
            exact ⟨M4, n0c d M M4 1 (Or.inr rfl) hC (wr d M M1 M2 M3 M4 1 (Or.inr rfl) a2 a1 b1 c1 d1), d2, ((a3.tr b3).tr c3).tr d3⟩
          · intro c e dm M hd hC h61 h62
            obtain ⟨d, rfl⟩ : ∃ d', dm = d' + 1 := ⟨dm - 1, by omega⟩
            obtain ⟨M1, a1, a2, a3, a4, a5⟩ := xm c e d M (by omega) hC h61 h62
            obtain ⟨M2, b1, b2, b3, b4, b5⟩ := m_nx J R nL xs D c e (d := d) (by omega) gV.2.1 gV.2.2.1 a2
            obtain ⟨M3, c1, c2, c3, c4, c5⟩ := ym c e d M2 (by omega) b2 (b4.trans a4) (b5.trans a5)
            obtain ⟨M4, d1, d2, d3, d4, d5⟩ := m_em J R nL xs D c e (d := d) (by omega) g160 c2 jm 0
            have r1 := m0 c e d M M1 (by omega) hC h61 a4 a2 a1
            rw [if_pos tc] at r1
            exact ⟨M4, r1.trans (mr c e d M1 M2 M3 M4 a2 b1 c1 d1), d2, ((a3.tr b3).tr c3).tr d3, d4.trans c4, d5.trans c5⟩
        · refine Or.inr ⟨b, hb2, ?_, ?_⟩
          · intro dc M hd hC
            obtain ⟨d, rfl⟩ : ∃ d', dc = d' + 2 := ⟨dc - 2, by omega⟩
            obtain ⟨M1, a1, a2, a3⟩ := xc d M (by omega) hC
            obtain ⟨M2, b1, b2, b3⟩ := c_nx_43 J R nL xs D (d := d) (by omega) gV.2.1 gV.2.2.1 a2
            obtain ⟨M3, c1, c2, c3⟩ := yc d M2 (by omega) b2
            obtain ⟨M4, d1, d2, d3⟩ := c_em_f_43 J R nL xs D (d := d) (by omega) c2 (nI (cls jm)) 0
            exact ⟨M4, n0c d M M4 0 (Or.inl rfl) hC (wr d M M1 M2 M3 M4 0 (Or.inl rfl) a2 a1 b1 c1 d1), d2, ((a3.tr b3).tr c3).tr d3⟩
          · intro c e dm M hd hC h61 h62
            obtain ⟨d, rfl⟩ : ∃ d', dm = d' + 1 := ⟨dm - 1, by omega⟩
            obtain ⟨M1, a1, a2, a3, a4, a5⟩ := xm c e d M (by omega) hC h61 h62
            obtain ⟨M2, b1, b2, b3, b4, b5⟩ := m_nx J R nL xs D c e (d := d) (by omega) gV.2.1 gV.2.2.1 a2
            obtain ⟨M3, N, c1, c2, c2', c3, c4, c5⟩ := ym c e d M2 (by omega) b2 (b4.trans a4) (b5.trans a5)
            have e1 : Pn (nx T n S1) = Pn S1 := rfl
            rw [e1] at c2'
            have g4 := g.2.2.2.1
            have nb := nV1.2
            have hb3 := gV.2.2.2.2.1 (by omega)
            obtain ⟨M4, d1, d2, d3, d4, d5⟩ := m_em_f J R nL xs D c e (d := d) (by omega) (show N < 160 by omega) c2 (nI jm) 0
            have r1 := m0 c e d M M1 (by omega) hC h61 a4 a2 a1
            rw [if_pos tc] at r1
            exact ⟨M4, N + 1, r1.trans (mr c e d M1 M2 M3 M4 a2 b1 c1 d1), d2, by omega, ((a3.tr b3).tr c3).tr d3, d4.trans c4, d5.trans c5⟩
      · refine Or.inl ⟨S1, g, ?_, ?_⟩
        · intro dc M hd hC
          obtain ⟨d, rfl⟩ : ∃ d', dc = d' + 2 := ⟨dc - 2, by omega⟩
          obtain ⟨M1, a1, a2, a3⟩ := xc d M (by omega) hC
          refine ⟨M1, n0c d M M1 1 (Or.inr rfl) hC ?_, a2, a3⟩
          have h6 : M1 37 6 = nI (Pt S1) := a2.2.1.2.2.1
          have q1 : ¬ Pt S1 = 60 := fun q => tc (Or.inl q)
          have q2 : ¬ Pt S1 = 61 := fun q => tc (Or.inr q)
          rw [xX5_readCompared, eX5_readCompared_43_0, a1]
          simp (disch := omega) only [px_bd_s, px_psh_s, px_psh_n, px_vb_s, px_ib_s, px_wb_s, px_bo_s, px_bo_n, Bool.cond_decide, cond_true, cond_false, ite_not, Bool.and_true, if_true, if_false, not_true_eq_false, not_false_eq_true, i10, eq_self, decide_true, decide_false, Bool.or_true, Bool.true_or, Bool.or_false, Bool.false_or, Bool.false_eq_true, eX5_readCompared_43_0_3, eX5_readCompared_43_10, h6, zs60, zs61, q1, q2]
        · intro c e dm M hd hC h61 h62
          obtain ⟨d, rfl⟩ : ∃ d', dm = d' + 1 := ⟨dm - 1, by omega⟩
          obtain ⟨M1, a1, a2, a3, a4, a5⟩ := xm c e d M (by omega) hC h61 h62
          have r1 := m0 c e d M M1 (by omega) hC h61 a4 a2 a1
          rw [if_neg tc] at r1
          exact ⟨M1, r1, a2, a3, a4, a5⟩
    · refine Or.inr ⟨b, hb2, ?_, ?_⟩
      · intro dc M hd hC
        obtain ⟨d, rfl⟩ : ∃ d', dc = d' + 2 := ⟨dc - 2, by omega⟩
        obtain ⟨M1, a1, a2, a3⟩ := xc d M (by omega) hC
        refine ⟨M1, n0c d M M1 0 (Or.inl rfl) hC ?_, a2, a3⟩
        rw [xX5_readCompared, eX5_readCompared_43_0, a1]
        simp (disch := omega) only [px_bd_s, px_psh_s, px_psh_n, px_vb_s, px_ib_s, px_wb_s, px_bo_s, px_bo_n, Bool.cond_decide, cond_true, cond_false, ite_not, Bool.and_true, if_true, if_false, not_true_eq_false, not_false_eq_true, i10, eq_self, decide_true, decide_false, Bool.or_true, Bool.true_or, Bool.or_false, Bool.false_or, Bool.false_eq_true, eX5_readCompared_43_0_3]
      · intro c e dm M hd hC h61 h62
        obtain ⟨d, rfl⟩ : ∃ d', dm = d' + 1 := ⟨dm - 1, by omega⟩
        obtain ⟨M1, N, a1, a2, a2', a3, a4, a5⟩ := xm c e d M (by omega) hC h61 h62
        have h6 : M 67 59 = nI (mtk (Pt S)) := hC.2.2.1.2.2.1
        have w := m_wr_n J R nL xs D c e (d := d) (by omega) h61
        have w' := m_wr_y J R nL xs D c e (d := d) (by omega) (show b ≤ 160 by omega) a4
        refine ⟨M1, N, ?_, a2, a2', a3, a4, a5⟩
        rw [xX12_not, eX12_not_0, w]
        simp (disch := omega) only [px_bd_s, px_psh_s, px_psh_n, px_vb_s, px_ib_s, px_wb_s, px_bo_s, px_bo_n, Bool.cond_decide, cond_true, cond_false, ite_not, Bool.and_true, if_true, if_false, not_true_eq_false, not_false_eq_true, i10, eq_self, decide_true, decide_false, Bool.or_true, Bool.true_or, Bool.or_false, Bool.false_or, Bool.false_eq_true, eX12_not_0_2, eX12_not_8, h6, mz13, t13, eX12_not_43, a1, eX12_not_43_2, w', eX12_not_43_4, eX12_not_102]
/-- all levels -/
theorem p_lev_43 {T : Nat → Nat} {n : Nat} (hn : n ≤ 160) : ∀ (k o : Nat), o + k = 5 → XP J R 43 38 nL xs D T n (5 + 8 * k) (5 + 6 * k) 58 225 o ∧ XP J R 43 38 nL xs D T n (5 + 8 * k + 4) (5 + 6 * k + 3) 54 222 o ∧ XP J R 43 38 nL xs D T n (5 + 8 * k + 6) (5 + 6 * k + 5) 52 220 o := by
  have st : ∀ (k o : Nat), o + k = 5 → XP J R 43 38 nL xs D T n (5 + 8 * k) (5 + 6 * k) 58 225 o → (o < 5 → ∃ kc1 km1, kc1 + 1 ≤ 5 + 8 * k + 2 + 2 ∧ km1 + 1 ≤ 5 + 6 * k + 2 + 1 ∧ XP J R 43 38 nL xs D T n kc1 km1 54 222 (o + 1)) → XP J R 43 38 nL xs D T n (5 + 8 * k) (5 + 6 * k) 58 225 o ∧ XP J R 43 38 nL xs D T n (5 + 8 * k + 4) (5 + 6 * k + 3) 54 222 o ∧ XP J R 43 38 nL xs D T n (5 + 8 * k + 6) (5 + 6 * k + 5) 52 220 o := by
    intro k o hk h1 hN
    have h2 := p_trm_43 J R nL xs D hn (by omega) (by omega) h1
    have h3 := p_sum_43 J R nL xs D hn (by omega) (by omega) h2
    have h4 := p_not_43 J R nL xs D hn (by omega) (by omega) (by omega) h3 hN
    have h5 := p_and_43 J R nL xs D hn (by omega) (by omega) h4
    have h6 := p_or_43 J R nL xs D hn (by omega) (by omega) h5
    exact ⟨h1, h4, h6⟩
  intro k
  induction k with
  | zero =>
    intro o hk
    exact st 0 o hk (p_one_43 J R nL xs D (by omega) (by omega) (by omega) (fun q => by omega) (fun q => by omega)) (fun q => by omega)
  | succ k ih =>
    intro o hk
    obtain ⟨i1, i2, i3⟩ := ih (o + 1) (by omega)
    exact st (k + 1) o hk (p_one_43 J R nL xs D (by omega) (by omega) (by omega) (fun _ => ⟨_, _, by omega, by omega, i1⟩) (fun _ => ⟨_, _, by omega, by omega, i3⟩)) (fun _ => ⟨_, _, by omega, by omega, i2⟩)
end S87
