/-! PART 86: READING: terms, sums, and, or -/
section S86
variable (J : Nat → Nat → Int64) (R : Nat → Nat → Option Nat) (nL : Nat) (xs : Nat → Int32) (D : px_H)
theorem l_trm_38 {T : Nat → Nat} {n kc km o : Nat} (hn : n ≤ 160) (hkc : 3 ≤ kc) (hkm : 3 ≤ km) (hX : XP J R 38 43 nL xs D T n kc km 58 225 o) : ∀ (g m : Nat) (S : PS), PV n S → m + g = 160 → m ≤ Pb S → (∃ S', PL n S S' ∧ (∀ d M , kc ≤ d → CP 43 T n S M → ∃ M1, px_run (px_mk (kX5_readTerm (px_ex px_tab (d)))) 8 ([some (Value.ref (37)), some (Value.int (nI o)), some (Value.int (1)), some (Value.int (nI m))], [], (hp (M) (J) (R) (38) (43) nL xs (D))) = some (some (Value.int (1)), (hp (M1) (J) (R) (38) (43) nL xs (D))) ∧ CP 43 T n S' M1 ∧ CF 43 M M1) ∧ (∀ c e d M , km ≤ d → MP T n S M → M 67 61 = -1 → M 67 62 = nI o → ∃ M1, px_run (px_mk (kX12_term (px_ex px_tab (d)))) 4 ([some (Value.ref (67))], [], (hp (M) (J) (R) (c) (e) nL xs (D))) = some (none, (hp (M1) (J) (R) (c) (e) nL xs (D))) ∧ MP T n S' M1 ∧ MF M M1 ∧ M1 67 61 = -1 ∧ M1 67 62 = nI o)) ∨ (∃ b, b ≤ n ∧ (∀ d M , kc ≤ d → CP 43 T n S M → ∃ M1, px_run (px_mk (kX5_readTerm (px_ex px_tab (d)))) 8 ([some (Value.ref (37)), some (Value.int (nI o)), some (Value.int (1)), some (Value.int (nI m))], [], (hp (M) (J) (R) (38) (43) nL xs (D))) = some (some (Value.int (0)), (hp (M1) (J) (R) (38) (43) nL xs (D))) ∧ CN 43 T n b M1 ∧ CF 43 M M1) ∧ (∀ c e d M , km ≤ d → MP T n S M → M 67 61 = -1 → M 67 62 = nI o → ∃ M1 N, px_run (px_mk (kX12_term (px_ex px_tab (d)))) 4 ([some (Value.ref (67))], [], (hp (M) (J) (R) (c) (e) nL xs (D))) = some (none, (hp (M1) (J) (R) (c) (e) nL xs (D))) ∧ MN N M1 ∧ N + Pb S ≤ Pn S + n ∧ MF M M1 ∧ M1 67 61 = nI b ∧ M1 67 62 = nI o)) := by
  have out : ∀ (m : Nat) (S : PS), PV n S → m ≤ 160 → ¬ Pt S = 42 → (∃ S', PL n S S' ∧ (∀ d M , kc ≤ d → CP 43 T n S M → ∃ M1, px_run (px_mk (kX5_readTerm (px_ex px_tab (d)))) 8 ([some (Value.ref (37)), some (Value.int (nI o)), some (Value.int (1)), some (Value.int (nI m))], [], (hp (M) (J) (R) (38) (43) nL xs (D))) = some (some (Value.int (1)), (hp (M1) (J) (R) (38) (43) nL xs (D))) ∧ CP 43 T n S' M1 ∧ CF 43 M M1) ∧ (∀ c e d M , km ≤ d → MP T n S M → M 67 61 = -1 → M 67 62 = nI o → ∃ M1, px_run (px_mk (kX12_term (px_ex px_tab (d)))) 4 ([some (Value.ref (67))], [], (hp (M) (J) (R) (c) (e) nL xs (D))) = some (none, (hp (M1) (J) (R) (c) (e) nL xs (D))) ∧ MP T n S' M1 ∧ MF M M1 ∧ M1 67 61 = -1 ∧ M1 67 62 = nI o)) := by
    intro m S hV hm ht
    have t61 := hV.2.2.2.1
    refine ⟨S, PL.rf hV, fun d M hd hC => ⟨M, ?_, hC, CF.rf _ _⟩, fun c e d M hd hC h61 h62 => ⟨M, ?_, hC, MF.rf _, h61, h62⟩⟩
    · have h6 : M 37 6 = nI (Pt S) := hC.2.1.2.2.1
      rw [eX5_readTerm_38_8, h6]
      by_cases hm2 : m < 160
      · simp (disch := omega) only [px_bd_s, px_psh_s, px_psh_n, px_vb_s, px_ib_s, px_wb_s, px_bo_s, px_bo_n, Bool.cond_decide, cond_true, cond_false, ite_not, Bool.and_true, if_true, if_false, not_true_eq_false, not_false_eq_true, i10, eq_self, decide_true, decide_false, Bool.or_true, Bool.true_or, Bool.or_false, Bool.false_or, Bool.false_eq_true, za160, if_neg, zs42, ht, not_false_eq_true, eX5_readTerm_38_53]
      · simp (disch := omega) only [px_bd_s, px_psh_s, px_psh_n, px_vb_s, px_ib_s, px_wb_s, px_bo_s, px_bo_n, Bool.cond_decide, cond_true, cond_false, ite_not, Bool.and_true, if_true, if_false, not_true_eq_false, not_false_eq_true, i10, eq_self, decide_true, decide_false, Bool.or_true, Bool.true_or, Bool.or_false, Bool.false_or, Bool.false_eq_true, za160, if_pos, eX5_readTerm_38_53]
    · have h6 : M 67 59 = nI (mtk (Pt S)) := hC.2.2.1.2.2.1
      have w := m_wr_n J R nL xs D c e (d := d) (by omega) h61
      rw [eX12_term_4, w]
      simp (disch := omega) only [px_bd_s, px_psh_s, px_psh_n, px_vb_s, px_ib_s, px_wb_s, px_bo_s, px_bo_n, Bool.cond_decide, cond_true, cond_false, ite_not, Bool.and_true, if_true, if_false, not_true_eq_false, not_false_eq_true, i10, eq_self, decide_true, decide_false, Bool.or_true, Bool.true_or, Bool.or_false, Bool.false_or, Bool.false_eq_true, eX12_term_4_2, h6, mz42, ht, eX12_term_38]
  intro g
  induction g with
  | zero =>
    intro m S hV hm hb
    have v1 := hV.1
    have v2 := hV.2.1
    have v5 := hV.2.2.2.2.1
    exact Or.inl (out m S hV (by omega) (by omega))
  | succ g ih =>
    intro m S hV hm hb
    obtain ⟨v1, v2, v3, t61, v5, v6, v7⟩ := id hV
    have nV := nx_V T hV
    have e0 : Pn (nx T n S) = Pn S := rfl
    by_cases ht : Pt S = 42
    · have hb2 := v5 (by omega)
      have wr : ∀ (d : Nat) (M M1 M2 M3 : Nat → Nat → Int32) (w : Int32), 3 ≤ d → CP 43 T n S M → px_ex px_tab (d) 61 [Value.ref (37)] (hp (M) (J) (R) (38) (43) nL xs (D)) = some (none, (hp (M1) (J) (R) (38) (43) nL xs (D))) → px_ex px_tab (d) 58 [Value.ref (37), Value.int (nI o)] (hp (M1) (J) (R) (38) (43) nL xs (D)) = some (some (Value.int (w)), (hp (M2) (J) (R) (38) (43) nL xs (D))) → px_ex px_tab (d) 40 [Value.ref (43), Value.int (nI (cls 9)), Value.int (0)] (hp (M2) (J) (R) (38) (43) nL xs (D)) = some (none, (hp (M3) (J) (R) (38) (43) nL xs (D))) → px_run (px_mk (kX5_readTerm (px_ex px_tab (d)))) 8 ([some (Value.ref (37)), some (Value.int (nI o)), some (Value.int (1)), some (Value.int (nI m))], [], (hp (M) (J) (R) (38) (43) nL xs (D))) = px_run (px_mk (kX5_readTerm (px_ex px_tab (d)))) 8 ([some (Value.ref (37)), some (Value.int (nI o)), some (Value.int (w)), some (Value.int (nI (m + 1)))], [], (hp (M3) (J) (R) (38) (43) nL xs (D))) := by
        intro d M M1 M2 M3 w hd hC a1 b1 c1
        have c1' : px_ex px_tab (d) 40 [Value.ref (43), Value.int (4), Value.int (0)] (hp (M2) (J) (R) (38) (43) nL xs (D)) = some (none, (hp (M3) (J) (R) (38) (43) nL xs (D))) := c1
        have h6 : M 37 6 = nI (Pt S) := hC.2.1.2.2.1
        rw [eX5_readTerm_38_8, h6]
        simp (disch := omega) only [px_bd_s, px_psh_s, px_psh_n, px_vb_s, px_ib_s, px_wb_s, px_bo_s, px_bo_n, Bool.cond_decide, cond_true, cond_false, ite_not, Bool.and_true, if_true, if_false, not_true_eq_false, not_false_eq_true, i10, eq_self, decide_true, decide_false, Bool.or_true, Bool.true_or, Bool.or_false, Bool.false_or, Bool.false_eq_true, za160, if_neg, zs42, ht, a1, eX5_readTerm_38_8_11, b1, eX5_readTerm_38_8_14, c1', eX5_readTerm_38_8_20, zp1]
      have mr : ∀ (c e d : Nat) (M M1 M2 M3 : Nat → Nat → Int32), 3 ≤ d → MP T n S M → M 67 61 = -1 → px_ex px_tab (d) 211 [Value.ref (67)] (hp (M) (J) (R) (c) (e) nL xs (D)) = some (none, (hp (M1) (J) (R) (c) (e) nL xs (D))) → px_ex px_tab (d) 225 [Value.ref (67)] (hp (M1) (J) (R) (c) (e) nL xs (D)) = some (none, (hp (M2) (J) (R) (c) (e) nL xs (D))) → px_ex px_tab (d) 218 [Value.ref (67), Value.int (nI 9), Value.int (0)] (hp (M2) (J) (R) (c) (e) nL xs (D)) = some (none, (hp (M3) (J) (R) (c) (e) nL xs (D))) → px_run (px_mk (kX12_term (px_ex px_tab (d)))) 4 ([some (Value.ref (67))], [], (hp (M) (J) (R) (c) (e) nL xs (D))) = px_run (px_mk (kX12_term (px_ex px_tab (d)))) 4 ([some (Value.ref (67))], [], (hp (M3) (J) (R) (c) (e) nL xs (D))) := by
        intro c e d M M1 M2 M3 hd hC h61 a1 b1 c1
        have c1' : px_ex px_tab (d) 218 [Value.ref (67), Value.int (9), Value.int (0)] (hp (M2) (J) (R) (c) (e) nL xs (D)) = some (none, (hp (M3) (J) (R) (c) (e) nL xs (D))) := c1
        have h6 : M 67 59 = nI (mtk (Pt S)) := hC.2.2.1.2.2.1
        have w := m_wr_n J R nL xs D c e (d := d) (by omega) h61
        rw [eX12_term_4, w]
        simp (disch := omega) only [px_bd_s, px_psh_s, px_psh_n, px_vb_s, px_ib_s, px_wb_s, px_bo_s, px_bo_n, Bool.cond_decide, cond_true, cond_false, ite_not, Bool.and_true, if_true, if_false, not_true_eq_false, not_false_eq_true, i10, eq_self, decide_true, decide_false, Bool.or_true, Bool.true_or, Bool.or_false, Bool.false_or, Bool.false_eq_true, eX12_term_4_2, h6, mz42, ht, a1, eX12_term_4_9, b1, eX12_term_4_11, c1', eX12_term_4_15]
      rcases hX (nx T n S) nV.1 with ⟨S2, g2, xc, xm⟩ | ⟨b, hb3, xc, xm⟩
      · obtain ⟨l1, l2, l3⟩ := PL_2 (j := 9) hV (by omega) g2 (by decide) (by decide) (by decide)
        have g160 : Pn S2 < 160 := by have := g2.1.1; have := g2.1.2.1; omega
        have l3' : m + 1 ≤ Pb (em S2 9 0) := by
          show m + 1 ≤ Pb S2
          omega
        rcases ih (m + 1) (em S2 9 0) l1.1 (by omega) l3' with ⟨S', i1, ic, im⟩ | ⟨b, hb3, ic, im⟩
        · refine Or.inl ⟨S', l1.tr i1, ?_, ?_⟩
          · intro d M hd hC
            obtain ⟨M1, a1, a2, a3⟩ := c_nx_38 J R nL xs D (d := d) (by omega) v2 v3 hC
            obtain ⟨M2, b1, b2, b3⟩ := xc d M1 hd a2
            obtain ⟨M3, c1, c2, c3⟩ := c_em_38 J R nL xs D (d := d) (by omega) g160 b2 9 0
            obtain ⟨M4, d1, d2, d3⟩ := ic d M3 hd c2
            exact ⟨M4, (wr d M M1 M2 M3 1 (by omega) hC a1 b1 c1).trans d1, d2, ((a3.tr b3).tr c3).tr d3⟩
          · intro c e d M hd hC h61 h62
            obtain ⟨M1, a1, a2, a3, a4, a5⟩ := m_nx J R nL xs D c e (d := d) (by omega) v2 v3 hC
            obtain ⟨M2, b1, b2, b3, b4, b5⟩ := xm c e d M1 hd a2 (a4.trans h61) (a5.trans h62)
            obtain ⟨M3, c1, c2, c3, c4, c5⟩ := m_em J R nL xs D c e (d := d) (by omega) g160 b2 9 0
            obtain ⟨M4, d1, d2, d3, d4, d5⟩ := im c e d M3 hd c2 (c4.trans b4) (c5.trans b5)
            exact ⟨M4, (mr c e d M M1 M2 M3 (by omega) hC h61 a1 b1 c1).trans d1, d2, ((a3.tr b3).tr c3).tr d3, d4, d5⟩
        · refine Or.inr ⟨b, hb3, ?_, ?_⟩
          · intro d M hd hC
            obtain ⟨M1, a1, a2, a3⟩ := c_nx_38 J R nL xs D (d := d) (by omega) v2 v3 hC
            obtain ⟨M2, b1, b2, b3⟩ := xc d M1 hd a2
            obtain ⟨M3, c1, c2, c3⟩ := c_em_38 J R nL xs D (d := d) (by omega) g160 b2 9 0
            obtain ⟨M4, d1, d2, d3⟩ := ic d M3 hd c2
            exact ⟨M4, (wr d M M1 M2 M3 1 (by omega) hC a1 b1 c1).trans d1, d2, ((a3.tr b3).tr c3).tr d3⟩
          · intro c e d M hd hC h61 h62
            obtain ⟨M1, a1, a2, a3, a4, a5⟩ := m_nx J R nL xs D c e (d := d) (by omega) v2 v3 hC
            obtain ⟨M2, b1, b2, b3, b4, b5⟩ := xm c e d M1 hd a2 (a4.trans h61) (a5.trans h62)
            obtain ⟨M3, c1, c2, c3, c4, c5⟩ := m_em J R nL xs D c e (d := d) (by omega) g160 b2 9 0
            obtain ⟨M4, N, d1, d2, d2', d3, d4, d5⟩ := im c e d M3 hd c2 (c4.trans b4) (c5.trans b5)
            have l4 := l1.2.2.2.1
            exact ⟨M4, N, (mr c e d M M1 M2 M3 (by omega) hC h61 a1 b1 c1).trans d1, d2, by omega, ((a3.tr b3).tr c3).tr d3, d4, d5⟩
      · refine Or.inr ⟨b, hb3, ?_, ?_⟩
        · intro d M hd hC
          obtain ⟨M1, a1, a2, a3⟩ := c_nx_38 J R nL xs D (d := d) (by omega) v2 v3 hC
          obtain ⟨M2, b1, b2, b3⟩ := xc d M1 hd a2
          obtain ⟨M3, c1, c2, c3⟩ := c_em_f_38 J R nL xs D (d := d) (by omega) b2 (nI (cls 9)) 0
          refine ⟨M3, (wr d M M1 M2 M3 0 (by omega) hC a1 b1 c1).trans ?_, c2, (a3.tr b3).tr c3⟩
          rw [eX5_readTerm_38_8]
          by_cases hm2 : m + 1 < 160
          · simp (disch := omega) only [px_bd_s, px_psh_s, px_psh_n, px_vb_s, px_ib_s, px_wb_s, px_bo_s, px_bo_n, Bool.cond_decide, cond_true, cond_false, ite_not, Bool.and_true, if_true, if_false, not_true_eq_false, not_false_eq_true, i10, eq_self, decide_true, decide_false, Bool.or_true, Bool.true_or, Bool.or_false, Bool.false_or, Bool.false_eq_true, za160, if_neg, eX5_readTerm_38_53]
          · simp (disch := omega) only [px_bd_s, px_psh_s, px_psh_n, px_vb_s, px_ib_s, px_wb_s, px_bo_s, px_bo_n, Bool.cond_decide, cond_true, cond_false, ite_not, Bool.and_true, if_true, if_false, not_true_eq_false, not_false_eq_true, i10, eq_self, decide_true, decide_false, Bool.or_true, Bool.true_or, Bool.or_false, Bool.false_or, Bool.false_eq_true, za160, if_pos, eX5_readTerm_38_53]
        · intro c e d M hd hC h61 h62
          obtain ⟨M1, a1, a2, a3, a4, a5⟩ := m_nx J R nL xs D c e (d := d) (by omega) v2 v3 hC
          obtain ⟨M2, N, b1, b2, b2', b3, b4, b5⟩ := xm c e d M1 hd a2 (a4.trans h61) (a5.trans h62)
          have nb := nV.2
          rw [e0] at b2'
          obtain ⟨M3, c1, c2, c3, c4, c5⟩ := m_em_f J R nL xs D c e (d := d) (by omega) (show N < 160 by omega) b2 (nI 9) 0
          have w := m_wr_y J R nL xs D c e (d := d) (by omega) (show b ≤ 160 by omega) (c4.trans b4)
          refine ⟨M3, N + 1, (mr c e d M M1 M2 M3 (by omega) hC h61 a1 b1 c1).trans ?_, c2, by omega, (a3.tr b3).tr c3, c4.trans b4, c5.trans b5⟩
          simp only [px_bd_s, px_psh_s, px_psh_n, px_vb_s, px_ib_s, px_wb_s, px_bo_s, px_bo_n, Bool.cond_decide, cond_true, cond_false, ite_not, Bool.and_true, if_true, if_false, not_true_eq_false, not_false_eq_true, i10, eq_self, decide_true, decide_false, Bool.or_true, Bool.true_or, Bool.or_false, Bool.false_or, Bool.false_eq_true, eX12_term_4, w, eX12_term_4_2, eX12_term_38]
    · exact Or.inl (out m S hV (by omega) ht)
theorem p_trm_38 {T : Nat → Nat} {n kc km o : Nat} (hn : n ≤ 160) (hkc : 3 ≤ kc) (hkm : 3 ≤ km) (hX : XP J R 38 43 nL xs D T n kc km 58 225 o) : XP J R 38 43 nL xs D T n (kc + 1) (km + 1) 57 224 o := by
  intro S hV
  rcases hX S hV with ⟨S1, g, xc, xm⟩ | ⟨b, hb, xc, xm⟩
  · have cc : ∀ (d : Nat) (M M1 : Nat → Nat → Int32), px_ex px_tab (d) 58 [Value.ref (37), Value.int (nI o)] (hp (M) (J) (R) (38) (43) nL xs (D)) = some (some (Value.int (1)), (hp (M1) (J) (R) (38) (43) nL xs (D))) → px_ex px_tab (d + 1) 57 [Value.ref (37), Value.int (nI o)] (hp (M) (J) (R) (38) (43) nL xs (D)) = px_run (px_mk (kX5_readTerm (px_ex px_tab (d)))) 8 ([some (Value.ref (37)), some (Value.int (nI o)), some (Value.int (1)), some (Value.int (0))], [], (hp (M1) (J) (R) (38) (43) nL xs (D))) := by
      intro d M M1 a1
      rw [xX5_readTerm, eX5_readTerm_38_0, a1]
      simp only [px_bd_s, px_psh_s, px_psh_n, px_vb_s, px_ib_s, px_wb_s, px_bo_s, px_bo_n, Bool.cond_decide, cond_true, cond_false, ite_not, Bool.and_true, if_true, if_false, not_true_eq_false, not_false_eq_true, i10, eq_self, decide_true, decide_false, Bool.or_true, Bool.true_or, Bool.or_false, Bool.false_or, Bool.false_eq_true, eX5_readTerm_38_0_3]
    have mc : ∀ (c e d : Nat) (M M1 : Nat → Nat → Int32), px_ex px_tab (d) 225 [Value.ref (67)] (hp (M) (J) (R) (c) (e) nL xs (D)) = some (none, (hp (M1) (J) (R) (c) (e) nL xs (D))) → px_ex px_tab (d + 1) 224 [Value.ref (67)] (hp (M) (J) (R) (c) (e) nL xs (D)) = px_run (px_mk (kX12_term (px_ex px_tab (d)))) 4 ([some (Value.ref (67))], [], (hp (M1) (J) (R) (c) (e) nL xs (D))) := by
      intro c e d M M1 a1
      rw [xX12_term, eX12_term_0, a1]
      simp only [px_bd_s, px_psh_s, px_psh_n, px_vb_s, px_ib_s, px_wb_s, px_bo_s, px_bo_n, Bool.cond_decide, cond_true, cond_false, ite_not, Bool.and_true, if_true, if_false, not_true_eq_false, not_false_eq_true, i10, eq_self, decide_true, decide_false, Bool.or_true, Bool.true_or, Bool.or_false, Bool.false_or, Bool.false_eq_true, eX12_term_0_2]
    rcases l_trm_38 J R nL xs D hn hkc hkm hX 160 0 S1 g.1 (by omega) (Nat.zero_le _) with ⟨S', l, lc, lm⟩ | ⟨b, hb, lc, lm⟩
    · refine Or.inl ⟨S', g.pl l, ?_, ?_⟩
      · intro dc M hd hC
        obtain ⟨d, rfl⟩ : ∃ d', dc = d' + 1 := ⟨dc - 1, by omega⟩
        obtain ⟨M1, a1, a2, a3⟩ := xc d M (by omega) hC
        obtain ⟨M2, b1, b2, b3⟩ := lc d M1 (by omega) a2
        exact ⟨M2, (cc d M M1 a1).trans b1, b2, a3.tr b3⟩
      · intro c e dm M hd hC h61 h62
        obtain ⟨d, rfl⟩ : ∃ d', dm = d' + 1 := ⟨dm - 1, by omega⟩
        obtain ⟨M1, a1, a2, a3, a4, a5⟩ := xm c e d M (by omega) hC h61 h62
        obtain ⟨M2, b1, b2, b3, b4, b5⟩ := lm c e d M1 (by omega) a2 a4 a5
        exact ⟨M2, (mc c e d M M1 a1).trans b1, b2, a3.tr b3, b4, b5⟩
    · refine Or.inr ⟨b, hb, ?_, ?_⟩
      · intro dc M hd hC
        obtain ⟨d, rfl⟩ : ∃ d', dc = d' + 1 := ⟨dc - 1, by omega⟩
        obtain ⟨M1, a1, a2, a3⟩ := xc d M (by omega) hC
        obtain ⟨M2, b1, b2, b3⟩ := lc d M1 (by omega) a2
        exact ⟨M2, (cc d M M1 a1).trans b1, b2, a3.tr b3⟩
      · intro c e dm M hd hC h61 h62
        obtain ⟨d, rfl⟩ : ∃ d', dm = d' + 1 := ⟨dm - 1, by omega⟩
        obtain ⟨M1, a1, a2, a3, a4, a5⟩ := xm c e d M (by omega) hC h61 h62
        obtain ⟨M2, N, b1, b2, b2', b3, b4, b5⟩ := lm c e d M1 (by omega) a2 a4 a5
        have g4 := g.2.2.2.1
        exact ⟨M2, N, (mc c e d M M1 a1).trans b1, b2, by omega, a3.tr b3, b4, b5⟩
  · refine Or.inr ⟨b, hb, ?_, ?_⟩
    · intro dc M hd hC
      obtain ⟨d, rfl⟩ : ∃ d', dc = d' + 1 := ⟨dc - 1, by omega⟩
      obtain ⟨M1, a1, a2, a3⟩ := xc d M (by omega) hC
      refine ⟨M1, ?_, a2, a3⟩
      rw [xX5_readTerm, eX5_readTerm_38_0, a1]
      simp only [px_bd_s, px_psh_s, px_psh_n, px_vb_s, px_ib_s, px_wb_s, px_bo_s, px_bo_n, Bool.cond_decide, cond_true, cond_false, ite_not, Bool.and_true, if_true, if_false, not_true_eq_false, not_false_eq_true, i10, eq_self, decide_true, decide_false, Bool.or_true, Bool.true_or, Bool.or_false, Bool.false_or, Bool.false_eq_true, eX5_readTerm_38_0_3, eX5_readTerm_38_8, show ¬ (160 : Int32) ≤ 0 from by decide, eX5_readTerm_38_53]
    · intro c e dm M hd hC h61 h62
      obtain ⟨d, rfl⟩ : ∃ d', dm = d' + 1 := ⟨dm - 1, by omega⟩
      obtain ⟨M1, N, a1, a2, a2', a3, a4, a5⟩ := xm c e d M (by omega) hC h61 h62
      refine ⟨M1, N, ?_, a2, a2', a3, a4, a5⟩
      have w := m_wr_y J R nL xs D c e (d := d) (by omega) (show b ≤ 160 by omega) a4
      rw [xX12_term, eX12_term_0, a1]
      simp only [px_bd_s, px_psh_s, px_psh_n, px_vb_s, px_ib_s, px_wb_s, px_bo_s, px_bo_n, Bool.cond_decide, cond_true, cond_false, ite_not, Bool.and_true, if_true, if_false, not_true_eq_false, not_false_eq_true, i10, eq_self, decide_true, decide_false, Bool.or_true, Bool.true_or, Bool.or_false, Bool.false_or, Bool.false_eq_true, eX12_term_0_2, eX12_term_4, w, eX12_term_4_2, eX12_term_38]
theorem l_trm_43 {T : Nat → Nat} {n kc km o : Nat} (hn : n ≤ 160) (hkc : 3 ≤ kc) (hkm : 3 ≤ km) (hX : XP J R 43 38 nL xs D T n kc km 58 225 o) : ∀ (g m : Nat) (S : PS), PV n S → m + g = 160 → m ≤ Pb S → (∃ S', PL n S S' ∧ (∀ d M , kc ≤ d → CP 38 T n S M → ∃ M1, px_run (px_mk (kX5_readTerm (px_ex px_tab (d)))) 8 ([some (Value.ref (37)), some (Value.int (nI o)), some (Value.int (1)), some (Value.int (nI m))], [], (hp (M) (J) (R) (43) (38) nL xs (D))) = some (some (Value.int (1)), (hp (M1) (J) (R) (43) (38) nL xs (D))) ∧ CP 38 T n S' M1 ∧ CF 38 M M1) ∧ (∀ c e d M , km ≤ d → MP T n S M → M 67 61 = -1 → M 67 62 = nI o → ∃ M1, px_run (px_mk (kX12_term (px_ex px_tab (d)))) 4 ([some (Value.ref (67))], [], (hp (M) (J) (R) (c) (e) nL xs (D))) = some (none, (hp (M1) (J) (R) (c) (e) nL xs (D))) ∧ MP T n S' M1 ∧ MF M M1 ∧ M1 67 61 = -1 ∧ M1 67 62 = nI o)) ∨ (∃ b, b ≤ n ∧ (∀ d M , kc ≤ d → CP 38 T n S M → ∃ M1, px_run (px_mk (kX5_readTerm (px_ex px_tab (d)))) 8 ([some (Value.ref (37)), some (Value.int (nI o)), some (Value.int (1)), some (Value.int (nI m))], [], (hp (M) (J) (R) (43) (38) nL xs (D))) = some (some (Value.int (0)), (hp (M1) (J) (R) (43) (38) nL xs (D))) ∧ CN 38 T n b M1 ∧ CF 38 M M1) ∧ (∀ c e d M , km ≤ d → MP T n S M → M 67 61 = -1 → M 67 62 = nI o → ∃ M1 N, px_run (px_mk (kX12_term (px_ex px_tab (d)))) 4 ([some (Value.ref (67))], [], (hp (M) (J) (R) (c) (e) nL xs (D))) = some (none, (hp (M1) (J) (R) (c) (e) nL xs (D))) ∧ MN N M1 ∧ N + Pb S ≤ Pn S + n ∧ MF M M1 ∧ M1 67 61 = nI b ∧ M1 67 62 = nI o)) := by
  have out : ∀ (m : Nat) (S : PS), PV n S → m ≤ 160 → ¬ Pt S = 42 → (∃ S', PL n S S' ∧ (∀ d M , kc ≤ d → CP 38 T n S M → ∃ M1, px_run (px_mk (kX5_readTerm (px_ex px_tab (d)))) 8 ([some (Value.ref (37)), some (Value.int (nI o)), some (Value.int (1)), some (Value.int (nI m))], [], (hp (M) (J) (R) (43) (38) nL xs (D))) = some (some (Value.int (1)), (hp (M1) (J) (R) (43) (38) nL xs (D))) ∧ CP 38 T n S' M1 ∧ CF 38 M M1) ∧ (∀ c e d M , km ≤ d → MP T n S M → M 67 61 = -1 → M 67 62 = nI o → ∃ M1, px_run (px_mk (kX12_term (px_ex px_tab (d)))) 4 ([some (Value.ref (67))], [], (hp (M) (J) (R) (c) (e) nL xs (D))) = some (none, (hp (M1) (J) (R) (c) (e) nL xs (D))) ∧ MP T n S' M1 ∧ MF M M1 ∧ M1 67 61 = -1 ∧ M1 67 62 = nI o)) := by
    intro m S hV hm ht
    have t61 := hV.2.2.2.1
    refine ⟨S, PL.rf hV, fun d M hd hC => ⟨M, ?_, hC, CF.rf _ _⟩, fun c e d M hd hC h61 h62 => ⟨M, ?_, hC, MF.rf _, h61, h62⟩⟩
    · have h6 : M 37 6 = nI (Pt S) := hC.2.1.2.2.1
      rw [eX5_readTerm_43_8, h6]
      by_cases hm2 : m < 160
      · simp (disch := omega) only [px_bd_s, px_psh_s, px_psh_n, px_vb_s, px_ib_s, px_wb_s, px_bo_s, px_bo_n, Bool.cond_decide, cond_true, cond_false, ite_not, Bool.and_true, if_true, if_false, not_true_eq_false, not_false_eq_true, i10, eq_self, decide_true, decide_false, Bool.or_true, Bool.true_or, Bool.or_false, Bool.false_or, Bool.false_eq_true, za160, if_neg, zs42, ht, not_false_eq_true, eX5_readTerm_43_53]
      · simp (disch := omega) only [px_bd_s, px_psh_s, px_psh_n, px_vb_s, px_ib_s, px_wb_s, px_bo_s, px_bo_n, Bool.cond_decide, cond_true, cond_false, ite_not, Bool.and_true, if_true, if_false, not_true_eq_false, not_false_eq_true, i10, eq_self, decide_true, decide_false, Bool.or_true, Bool.true_or, Bool.or_false, Bool.false_or, Bool.false_eq_true, za160, if_pos, eX5_readTerm_43_53]
    · have h6 : M 67 59 = nI (mtk (Pt S)) := hC.2.2.1.2.2.1
      have w := m_wr_n J R nL xs D c e (d := d) (by omega) h61
      rw [eX12_term_4, w]
      simp (disch := omega) only [px_bd_s, px_psh_s, px_psh_n, px_vb_s, px_ib_s, px_wb_s, px_bo_s, px_bo_n, Bool.cond_decide, cond_true, cond_false, ite_not, Bool.and_true, if_true, if_false, not_true_eq_false, not_false_eq_true, i10, eq_self, decide_true, decide_false, Bool.or_true, Bool.true_or, Bool.or_false, Bool.false_or, Bool.false_eq_true, eX12_term_4_2, h6, mz42, ht, eX12_term_38]
  intro g
  induction g with
  | zero =>
    intro m S hV hm hb
    have v1 := hV.1
    have v2 := hV.2.1
    have v5 := hV.2.2.2.2.1
    exact Or.inl (out m S hV (by omega) (by omega))
  | succ g ih =>
    intro m S hV hm hb
    obtain ⟨v1, v2, v3, t61, v5, v6, v7⟩ := id hV
    have nV := nx_V T hV
    have e0 : Pn (nx T n S) = Pn S := rfl
    by_cases ht : Pt S = 42
    · have hb2 := v5 (by omega)
      have wr : ∀ (d : Nat) (M M1 M2 M3 : Nat → Nat → Int32) (w : Int32), 3 ≤ d → CP 38 T n S M → px_ex px_tab (d) 61 [Value.ref (37)] (hp (M) (J) (R) (43) (38) nL xs (D)) = some (none, (hp (M1) (J) (R) (43) (38) nL xs (D))) → px_ex px_tab (d) 58 [Value.ref (37), Value.int (nI o)] (hp (M1) (J) (R) (43) (38) nL xs (D)) = some (some (Value.int (w)), (hp (M2) (J) (R) (43) (38) nL xs (D))) → px_ex px_tab (d) 40 [Value.ref (38), Value.int (nI (cls 9)), Value.int (0)] (hp (M2) (J) (R) (43) (38) nL xs (D)) = some (none, (hp (M3) (J) (R) (43) (38) nL xs (D))) → px_run (px_mk (kX5_readTerm (px_ex px_tab (d)))) 8 ([some (Value.ref (37)), some (Value.int (nI o)), some (Value.int (1)), some (Value.int (nI m))], [], (hp (M) (J) (R) (43) (38) nL xs (D))) = px_run (px_mk (kX5_readTerm (px_ex px_tab (d)))) 8 ([some (Value.ref (37)), some (Value.int (nI o)), some (Value.int (w)), some (Value.int (nI (m + 1)))], [], (hp (M3) (J) (R) (43) (38) nL xs (D))) := by
        intro d M M1 M2 M3 w hd hC a1 b1 c1
        have c1' : px_ex px_tab (d) 40 [Value.ref (38), Value.int (4), Value.int (0)] (hp (M2) (J) (R) (43) (38) nL xs (D)) = some (none, (hp (M3) (J) (R) (43) (38) nL xs (D))) := c1
        have h6 : M 37 6 = nI (Pt S) := hC.2.1.2.2.1
        rw [eX5_readTerm_43_8, h6]
        simp (disch := omega) only [px_bd_s, px_psh_s, px_psh_n, px_vb_s, px_ib_s, px_wb_s, px_bo_s, px_bo_n, Bool.cond_decide, cond_true, cond_false, ite_not, Bool.and_true, if_true, if_false, not_true_eq_false, not_false_eq_true, i10, eq_self, decide_true, decide_false, Bool.or_true, Bool.true_or, Bool.or_false, Bool.false_or, Bool.false_eq_true, za160, if_neg, zs42, ht, a1, eX5_readTerm_43_8_11, b1, eX5_readTerm_43_8_14, c1', eX5_readTerm_43_8_20, zp1]
      have mr : ∀ (c e d : Nat) (M M1 M2 M3 : Nat → Nat → Int32), 3 ≤ d → MP T n S M → M 67 61 = -1 → px_ex px_tab (d) 211 [Value.ref (67)] (hp (M) (J) (R) (c) (e) nL xs (D)) = some (none, (hp (M1) (J) (R) (c) (e) nL xs (D))) → px_ex px_tab (d) 225 [Value.ref (67)] (hp (M1) (J) (R) (c) (e) nL xs (D)) = some (none, (hp (M2) (J) (R) (c) (e) nL xs (D))) → px_ex px_tab (d) 218 [Value.ref (67), Value.int (nI 9), Value.int (0)] (hp (M2) (J) (R) (c) (e) nL xs (D)) = some (none, (hp (M3) (J) (R) (c) (e) nL xs (D))) → px_run (px_mk (kX12_term (px_ex px_tab (d)))) 4 ([some (Value.ref (67))], [], (hp (M) (J) (R) (c) (e) nL xs (D))) = px_run (px_mk (kX12_term (px_ex px_tab (d)))) 4 ([some (Value.ref (67))], [], (hp (M3) (J) (R) (c) (e) nL xs (D))) := by
        intro c e d M M1 M2 M3 hd hC h61 a1 b1 c1
        have c1' : px_ex px_tab (d) 218 [Value.ref (67), Value.int (9), Value.int (0)] (hp (M2) (J) (R) (c) (e) nL xs (D)) = some (none, (hp (M3) (J) (R) (c) (e) nL xs (D))) := c1
        have h6 : M 67 59 = nI (mtk (Pt S)) := hC.2.2.1.2.2.1
        have w := m_wr_n J R nL xs D c e (d := d) (by omega) h61
        rw [eX12_term_4, w]
        simp (disch := omega) only [px_bd_s, px_psh_s, px_psh_n, px_vb_s, px_ib_s, px_wb_s, px_bo_s, px_bo_n, Bool.cond_decide, cond_true, cond_false, ite_not, Bool.and_true, if_true, if_false, not_true_eq_false, not_false_eq_true, i10, eq_self, decide_true, decide_false, Bool.or_true, Bool.true_or, Bool.or_false, Bool.false_or, Bool.false_eq_true, eX12_term_4_2, h6, mz42, ht, a1, eX12_term_4_9, b1, eX12_term_4_11, c1', eX12_term_4_15]
      rcases hX (nx T n S) nV.1 with ⟨S2, g2, xc, xm⟩ | ⟨b, hb3, xc, xm⟩
      · obtain ⟨l1, l2, l3⟩ := PL_2 (j := 9) hV (by omega) g2 (by decide) (by decide) (by decide)
        have g160 : Pn S2 < 160 := by have := g2.1.1; have := g2.1.2.1; omega
        have l3' : m + 1 ≤ Pb (em S2 9 0) := by
          show m + 1 ≤ Pb S2
          omega
        rcases ih (m + 1) (em S2 9 0) l1.1 (by omega) l3' with ⟨S', i1, ic, im⟩ | ⟨b, hb3, ic, im⟩
        · refine Or.inl ⟨S', l1.tr i1, ?_, ?_⟩
          · intro d M hd hC
            obtain ⟨M1, a1, a2, a3⟩ := c_nx_43 J R nL xs D (d := d) (by omega) v2 v3 hC
            obtain ⟨M2, b1, b2, b3⟩ := xc d M1 hd a2
            obtain ⟨M3, c1, c2, c3⟩ := c_em_43 J R nL xs D (d := d) (by omega) g160 b2 9 0
            obtain ⟨M4, d1, d2, d3⟩ := ic d M3 hd c2
            exact ⟨M4, (wr d M M1 M2 M3 1 (by omega) hC a1 b1 c1).trans d1, d2, ((a3.tr b3).tr c3).tr d3⟩
          · intro c e d M hd hC h61 h62
            obtain ⟨M1, a1, a2, a3, a4, a5⟩ := m_nx J R nL xs D c e (d := d) (by omega) v2 v3 hC
            obtain ⟨M2, b1, b2, b3, b4, b5⟩ := xm c e d M1 hd a2 (a4.trans h61) (a5.trans h62)
            obtain ⟨M3, c1, c2, c3, c4, c5⟩ := m_em J R nL xs D c e (d := d) (by omega) g160 b2 9 0
            obtain ⟨M4, d1, d2, d3, d4, d5⟩ := im c e d M3 hd c2 (c4.trans b4) (c5.trans b5)
            exact ⟨M4, (mr c e d M M1 M2 M3 (by omega) hC h61 a1 b1 c1).trans d1, d2, ((a3.tr b3).tr c3).tr d3, d4, d5⟩
        · refine Or.inr ⟨b, hb3, ?_, ?_⟩
          · intro d M hd hC
            obtain ⟨M1, a1, a2, a3⟩ := c_nx_43 J R nL xs D (d := d) (by omega) v2 v3 hC
            obtain ⟨M2, b1, b2, b3⟩ := xc d M1 hd a2
            obtain ⟨M3, c1, c2, c3⟩ := c_em_43 J R nL xs D (d := d) (by omega) g160 b2 9 0
            obtain ⟨M4, d1, d2, d3⟩ := ic d M3 hd c2
            exact ⟨M4, (wr d M M1 M2 M3 1 (by omega) hC a1 b1 c1).trans d1, d2, ((a3.tr b3).tr c3).tr d3⟩
          · intro c e d M hd hC h61 h62
            obtain ⟨M1, a1, a2, a3, a4, a5⟩ := m_nx J R nL xs D c e (d := d) (by omega) v2 v3 hC
            obtain ⟨M2, b1, b2, b3, b4, b5⟩ := xm c e d M1 hd a2 (a4.trans h61) (a5.trans h62)
            obtain ⟨M3, c1, c2, c3, c4, c5⟩ := m_em J R nL xs D c e (d := d) (by omega) g160 b2 9 0
            obtain ⟨M4, N, d1, d2, d2', d3, d4, d5⟩ := im c e d M3 hd c2 (c4.trans b4) (c5.trans b5)
            have l4 := l1.2.2.2.1
            exact ⟨M4, N, (mr c e d M M1 M2 M3 (by omega) hC h61 a1 b1 c1).trans d1, d2, by omega, ((a3.tr b3).tr c3).tr d3, d4, d5⟩
      · refine Or.inr ⟨b, hb3, ?_, ?_⟩
        · intro d M hd hC
          obtain ⟨M1, a1, a2, a3⟩ := c_nx_43 J R nL xs D (d := d) (by omega) v2 v3 hC
          obtain ⟨M2, b1, b2, b3⟩ := xc d M1 hd a2
          obtain ⟨M3, c1, c2, c3⟩ := c_em_f_43 J R nL xs D (d := d) (by omega) b2 (nI (cls 9)) 0
          refine ⟨M3, (wr d M M1 M2 M3 0 (by omega) hC a1 b1 c1).trans ?_, c2, (a3.tr b3).tr c3⟩
          rw [eX5_readTerm_43_8]
          by_cases hm2 : m + 1 < 160
          · simp (disch := omega) only [px_bd_s, px_psh_s, px_psh_n, px_vb_s, px_ib_s, px_wb_s, px_bo_s, px_bo_n, Bool.cond_decide, cond_true, cond_false, ite_not, Bool.and_true, if_true, if_false, not_true_eq_false, not_false_eq_true, i10, eq_self, decide_true, decide_false, Bool.or_true, Bool.true_or, Bool.or_false, Bool.false_or, Bool.false_eq_true, za160, if_neg, eX5_readTerm_43_53]
          · simp (disch := omega) only [px_bd_s, px_psh_s, px_psh_n, px_vb_s, px_ib_s, px_wb_s, px_bo_s, px_bo_n, Bool.cond_decide, cond_true, cond_false, ite_not, Bool.and_true, if_true, if_false, not_true_eq_false, not_false_eq_true, i10, eq_self, decide_true, decide_false, Bool.or_true, Bool.true_or, Bool.or_false, Bool.false_or, Bool.false_eq_true, za160, if_pos, eX5_readTerm_43_53]
        · intro c e d M hd hC h61 h62
          obtain ⟨M1, a1, a2, a3, a4, a5⟩ := m_nx J R nL xs D c e (d := d) (by omega) v2 v3 hC
          obtain ⟨M2, N, b1, b2, b2', b3, b4, b5⟩ := xm c e d M1 hd a2 (a4.trans h61) (a5.trans h62)
          have nb := nV.2
          rw [e0] at b2'
          obtain ⟨M3, c1, c2, c3, c4, c5⟩ := m_em_f J R nL xs D c e (d := d) (by omega) (show N < 160 by omega) b2 (nI 9) 0
          have w := m_wr_y J R nL xs D c e (d := d) (by omega) (show b ≤ 160 by omega) (c4.trans b4)
          refine ⟨M3, N + 1, (mr c e d M M1 M2 M3 (by omega) hC h61 a1 b1 c1).trans ?_, c2, by omega, (a3.tr b3).tr c3, c4.trans b4, c5.trans b5⟩
          simp only [px_bd_s, px_psh_s, px_psh_n, px_vb_s, px_ib_s, px_wb_s, px_bo_s, px_bo_n, Bool.cond_decide, cond_true, cond_false, ite_not, Bool.and_true, if_true, if_false, not_true_eq_false, not_false_eq_true, i10, eq_self, decide_true, decide_false, Bool.or_true, Bool.true_or, Bool.or_false, Bool.false_or, Bool.false_eq_true, eX12_term_4, w, eX12_term_4_2, eX12_term_38]
    · exact Or.inl (out m S hV (by omega) ht)
theorem p_trm_43 {T : Nat → Nat} {n kc km o : Nat} (hn : n ≤ 160) (hkc : 3 ≤ kc) (hkm : 3 ≤ km) (hX : XP J R 43 38 nL xs D T n kc km 58 225 o) : XP J R 43 38 nL xs D T n (kc + 1) (km + 1) 57 224 o := by
  intro S hV
  rcases hX S hV with ⟨S1, g, xc, xm⟩ | ⟨b, hb, xc, xm⟩
  · have cc : ∀ (d : Nat) (M M1 : Nat → Nat → Int32), px_ex px_tab (d) 58 [Value.ref (37), Value.int (nI o)] (hp (M) (J) (R) (43) (38) nL xs (D)) = some (some (Value.int (1)), (hp (M1) (J) (R) (43) (38) nL xs (D))) → px_ex px_tab (d + 1) 57 [Value.ref (37), Value.int (nI o)] (hp (M) (J) (R) (43) (38) nL xs (D)) = px_run (px_mk (kX5_readTerm (px_ex px_tab (d)))) 8 ([some (Value.ref (37)), some (Value.int (nI o)), some (Value.int (1)), some (Value.int (0))], [], (hp (M1) (J) (R) (43) (38) nL xs (D))) := by
      intro d M M1 a1
      rw [xX5_readTerm, eX5_readTerm_43_0, a1]
      simp only [px_bd_s, px_psh_s, px_psh_n, px_vb_s, px_ib_s, px_wb_s, px_bo_s, px_bo_n, Bool.cond_decide, cond_true, cond_false, ite_not, Bool.and_true, if_true, if_false, not_true_eq_false, not_false_eq_true, i10, eq_self, decide_true, decide_false, Bool.or_true, Bool.true_or, Bool.or_false, Bool.false_or, Bool.false_eq_true, eX5_readTerm_43_0_3]
    have mc : ∀ (c e d : Nat) (M M1 : Nat → Nat → Int32), px_ex px_tab (d) 225 [Value.ref (67)] (hp (M) (J) (R) (c) (e) nL xs (D)) = some (none, (hp (M1) (J) (R) (c) (e) nL xs (D))) → px_ex px_tab (d + 1) 224 [Value.ref (67)] (hp (M) (J) (R) (c) (e) nL xs (D)) = px_run (px_mk (kX12_term (px_ex px_tab (d)))) 4 ([some (Value.ref (67))], [], (hp (M1) (J) (R) (c) (e) nL xs (D))) := by
      intro c e d M M1 a1
      rw [xX12_term, eX12_term_0, a1]
      simp only [px_bd_s, px_psh_s, px_psh_n, px_vb_s, px_ib_s, px_wb_s, px_bo_s, px_bo_n, Bool.cond_decide, cond_true, cond_false, ite_not, Bool.and_true, if_true, if_false, not_true_eq_false, not_false_eq_true, i10, eq_self, decide_true, decide_false, Bool.or_true, Bool.true_or, Bool.or_false, Bool.false_or, Bool.false_eq_true, eX12_term_0_2]
    rcases l_trm_43 J R nL xs D hn hkc hkm hX 160 0 S1 g.1 (by omega) (Nat.zero_le _) with ⟨S', l, lc, lm⟩ | ⟨b, hb, lc, lm⟩
    · refine Or.inl ⟨S', g.pl l, ?_, ?_⟩
      · intro dc M hd hC
        obtain ⟨d, rfl⟩ : ∃ d', dc = d' + 1 := ⟨dc - 1, by omega⟩
        obtain ⟨M1, a1, a2, a3⟩ := xc d M (by omega) hC
        obtain ⟨M2, b1, b2, b3⟩ := lc d M1 (by omega) a2
        exact ⟨M2, (cc d M M1 a1).trans b1, b2, a3.tr b3⟩
      · intro c e dm M hd hC h61 h62
        obtain ⟨d, rfl⟩ : ∃ d', dm = d' + 1 := ⟨dm - 1, by omega⟩
        obtain ⟨M1, a1, a2, a3, a4, a5⟩ := xm c e d M (by omega) hC h61 h62
        obtain ⟨M2, b1, b2, b3, b4, b5⟩ := lm c e d M1 (by omega) a2 a4 a5
        exact ⟨M2, (mc c e d M M1 a1).trans b1, b2, a3.tr b3, b4, b5⟩
    · refine Or.inr ⟨b, hb, ?_, ?_⟩
      · intro dc M hd hC
        obtain ⟨d, rfl⟩ : ∃ d', dc = d' + 1 := ⟨dc - 1, by omega⟩
        obtain ⟨M1, a1, a2, a3⟩ := xc d M (by omega) hC
        obtain ⟨M2, b1, b2, b3⟩ := lc d M1 (by omega) a2
        exact ⟨M2, (cc d M M1 a1).trans b1, b2, a3.tr b3⟩
      · intro c e dm M hd hC h61 h62
        obtain ⟨d, rfl⟩ : ∃ d', dm = d' + 1 := ⟨dm - 1, by omega⟩
        obtain ⟨M1, a1, a2, a3, a4, a5⟩ := xm c e d M (by omega) hC h61 h62
        obtain ⟨M2, N, b1, b2, b2', b3, b4, b5⟩ := lm c e d M1 (by omega) a2 a4 a5
        have g4 := g.2.2.2.1
        exact ⟨M2, N, (mc c e d M M1 a1).trans b1, b2, by omega, a3.tr b3, b4, b5⟩
  · refine Or.inr ⟨b, hb, ?_, ?_⟩
    · intro dc M hd hC
      obtain ⟨d, rfl⟩ : ∃ d', dc = d' + 1 := ⟨dc - 1, by omega⟩
      obtain ⟨M1, a1, a2, a3⟩ := xc d M (by omega) hC
      refine ⟨M1, ?_, a2, a3⟩
      rw [xX5_readTerm, eX5_readTerm_43_0, a1]
      simp only [px_bd_s, px_psh_s, px_psh_n, px_vb_s, px_ib_s, px_wb_s, px_bo_s, px_bo_n, Bool.cond_decide, cond_true, cond_false, ite_not, Bool.and_true, if_true, if_false, not_true_eq_false, not_false_eq_true, i10, eq_self, decide_true, decide_false, Bool.or_true, Bool.true_or, Bool.or_false, Bool.false_or, Bool.false_eq_true, eX5_readTerm_43_0_3, eX5_readTerm_43_8, show ¬ (160 : Int32) ≤ 0 from by decide, eX5_readTerm_43_53]
    · intro c e dm M hd hC h61 h62
      obtain ⟨d, rfl⟩ : ∃ d', dm = d' + 1 := ⟨dm - 1, by omega⟩
      obtain ⟨M1, N, a1, a2, a2', a3, a4, a5⟩ := xm c e d M (by omega) hC h61 h62
      refine ⟨M1, N, ?_, a2, a2', a3, a4, a5⟩
      have w := m_wr_y J R nL xs D c e (d := d) (by omega) (show b ≤ 160 by omega) a4
      rw [xX12_term, eX12_term_0, a1]
      simp only [px_bd_s, px_psh_s, px_psh_n, px_vb_s, px_ib_s, px_wb_s, px_bo_s, px_bo_n, Bool.cond_decide, cond_true, cond_false, ite_not, Bool.and_true, if_true, if_false, not_true_eq_false, not_false_eq_true, i10, eq_self, decide_true, decide_false, Bool.or_true, Bool.true_or, Bool.or_false, Bool.false_or, Bool.false_eq_true, eX12_term_0_2, eX12_term_4, w, eX12_term_4_2, eX12_term_38]
theorem l_sum_38 {T : Nat → Nat} {n kc km o : Nat} (hn : n ≤ 160) (hkc : 3 ≤ kc) (hkm : 3 ≤ km) (hX : XP J R 38 43 nL xs D T n kc km 57 224 o) : ∀ (g m : Nat) (S : PS), PV n S → m + g = 160 → m ≤ Pb S → (∃ S', PL n S S' ∧ (∀ d M  (o4 : Option Value), kc ≤ d → CP 43 T n S M → ∃ M1, px_run (px_mk (kX5_readSum (px_ex px_tab (d)))) 8 ([some (Value.ref (37)), some (Value.int (nI o)), some (Value.int (1)), some (Value.int (nI m)), o4], [], (hp (M) (J) (R) (38) (43) nL xs (D))) = some (some (Value.int (1)), (hp (M1) (J) (R) (38) (43) nL xs (D))) ∧ CP 43 T n S' M1 ∧ CF 43 M M1) ∧ (∀ c e d M  (o1 : Option Value), km ≤ d → MP T n S M → M 67 61 = -1 → M 67 62 = nI o → ∃ M1, px_run (px_mk (kX12_added (px_ex px_tab (d)))) 4 ([some (Value.ref (67)), o1], [], (hp (M) (J) (R) (c) (e) nL xs (D))) = some (none, (hp (M1) (J) (R) (c) (e) nL xs (D))) ∧ MP T n S' M1 ∧ MF M M1 ∧ M1 67 61 = -1 ∧ M1 67 62 = nI o)) ∨ (∃ b, b ≤ n ∧ (∀ d M  (o4 : Option Value), kc ≤ d → CP 43 T n S M → ∃ M1, px_run (px_mk (kX5_readSum (px_ex px_tab (d)))) 8 ([some (Value.ref (37)), some (Value.int (nI o)), some (Value.int (1)), some (Value.int (nI m)), o4], [], (hp (M) (J) (R) (38) (43) nL xs (D))) = some (some (Value.int (0)), (hp (M1) (J) (R) (38) (43) nL xs (D))) ∧ CN 43 T n b M1 ∧ CF 43 M M1) ∧ (∀ c e d M  (o1 : Option Value), km ≤ d → MP T n S M → M 67 61 = -1 → M 67 62 = nI o → ∃ M1 N, px_run (px_mk (kX12_added (px_ex px_tab (d)))) 4 ([some (Value.ref (67)), o1], [], (hp (M) (J) (R) (c) (e) nL xs (D))) = some (none, (hp (M1) (J) (R) (c) (e) nL xs (D))) ∧ MN N M1 ∧ N + Pb S ≤ Pn S + n ∧ MF M M1 ∧ M1 67 61 = nI b ∧ M1 67 62 = nI o)) := by
  have out : ∀ (m : Nat) (S : PS), PV n S → m ≤ 160 → ¬ (Pt S = 43 ∨ Pt S = 45) → (∃ S', PL n S S' ∧ (∀ d M  (o4 : Option Value), kc ≤ d → CP 43 T n S M → ∃ M1, px_run (px_mk (kX5_readSum (px_ex px_tab (d)))) 8 ([some (Value.ref (37)), some (Value.int (nI o)), some (Value.int (1)), some (Value.int (nI m)), o4], [], (hp (M) (J) (R) (38) (43) nL xs (D))) = some (some (Value.int (1)), (hp (M1) (J) (R) (38) (43) nL xs (D))) ∧ CP 43 T n S' M1 ∧ CF 43 M M1) ∧ (∀ c e d M  (o1 : Option Value), km ≤ d → MP T n S M → M 67 61 = -1 → M 67 62 = nI o → ∃ M1, px_run (px_mk (kX12_added (px_ex px_tab (d)))) 4 ([some (Value.ref (67)), o1], [], (hp (M) (J) (R) (c) (e) nL xs (D))) = some (none, (hp (M1) (J) (R) (c) (e) nL xs (D))) ∧ MP T n S' M1 ∧ MF M M1 ∧ M1 67 61 = -1 ∧ M1 67 62 = nI o)) := by
    intro m S hV hm ht
    have t61 := hV.2.2.2.1
    have h43 : ¬ Pt S = 43 := fun q => ht (Or.inl q)
    have h45 : ¬ Pt S = 45 := fun q => ht (Or.inr q)
    refine ⟨S, PL.rf hV, fun d M o4 hd hC => ⟨M, ?_, hC, CF.rf _ _⟩, fun c e d M o1 hd hC h61 h62 => ⟨M, ?_, hC, MF.rf _, h61, h62⟩⟩
    · have h6 : M 37 6 = nI (Pt S) := hC.2.1.2.2.1
      rw [eX5_readSum_38_8, h6]
      by_cases hm2 : m < 160
      · simp (disch := omega) only [px_bd_s, px_psh_s, px_psh_n, px_vb_s, px_ib_s, px_wb_s, px_bo_s, px_bo_n, Bool.cond_decide, cond_true, cond_false, ite_not, Bool.and_true, if_true, if_false, not_true_eq_false, not_false_eq_true, i10, eq_self, decide_true, decide_false, Bool.or_true, Bool.true_or, Bool.or_false, Bool.false_or, Bool.false_eq_true, za160, if_neg, zs43, zs45, h43, h45, not_false_eq_true, eX5_readSum_38_80]
      · simp (disch := omega) only [px_bd_s, px_psh_s, px_psh_n, px_vb_s, px_ib_s, px_wb_s, px_bo_s, px_bo_n, Bool.cond_decide, cond_true, cond_false, ite_not, Bool.and_true, if_true, if_false, not_true_eq_false, not_false_eq_true, i10, eq_self, decide_true, decide_false, Bool.or_true, Bool.true_or, Bool.or_false, Bool.false_or, Bool.false_eq_true, za160, if_pos, eX5_readSum_38_80]
    · have h6 : M 67 59 = nI (mtk (Pt S)) := hC.2.2.1.2.2.1
      have w := m_wr_n J R nL xs D c e (d := d) (by omega) h61
      rw [eX12_added_4, w]
      simp (disch := omega) only [px_bd_s, px_psh_s, px_psh_n, px_vb_s, px_ib_s, px_wb_s, px_bo_s, px_bo_n, Bool.cond_decide, cond_true, cond_false, ite_not, Bool.and_true, if_true, if_false, not_true_eq_false, not_false_eq_true, i10, eq_self, decide_true, decide_false, Bool.or_true, Bool.true_or, Bool.or_false, Bool.false_or, Bool.false_eq_true, eX12_added_4_2, h6, mz43, mz45, h43, h45, eX12_added_63]
  intro g
  induction g with
  | zero =>
    intro m S hV hm hb
    have v1 := hV.1
    have v2 := hV.2.1
    have v5 := hV.2.2.2.2.1
    exact Or.inl (out m S hV (by omega) (by omega))
  | succ g ih =>
    intro m S hV hm hb
    obtain ⟨v1, v2, v3, t61, v5, v6, v7⟩ := id hV
    have nV := nx_V T hV
    have e0 : Pn (nx T n S) = Pn S := rfl
    by_cases ht : Pt S = 43 ∨ Pt S = 45
    · have hb2 := v5 (by omega)
      obtain ⟨jm, jc, hj1, hj2, hj3, hj4, wr, mr⟩ : ∃ (jm jc : Nat), jm ≤ 10 ∧ ¬ (jm = 0 ∨ jm = 1) ∧ ¬ (jm = 4 ∨ jm = 10) ∧ jc = cls jm ∧ (∀ (d : Nat) (M M1 M2 M3 : Nat → Nat → Int32) (w : Int32) (o4 : Option Value), 3 ≤ d → CP 43 T n S M → px_ex px_tab (d) 61 [Value.ref (37)] (hp (M) (J) (R) (38) (43) nL xs (D)) = some (none, (hp (M1) (J) (R) (38) (43) nL xs (D))) → px_ex px_tab (d) 57 [Value.ref (37), Value.int (nI o)] (hp (M1) (J) (R) (38) (43) nL xs (D)) = some (some (Value.int (w)), (hp (M2) (J) (R) (38) (43) nL xs (D))) → px_ex px_tab (d) 40 [Value.ref (43), Value.int (nI jc), Value.int (0)] (hp (M2) (J) (R) (38) (43) nL xs (D)) = some (none, (hp (M3) (J) (R) (38) (43) nL xs (D))) → px_run (px_mk (kX5_readSum (px_ex px_tab (d)))) 8 ([some (Value.ref (37)), some (Value.int (nI o)), some (Value.int (1)), some (Value.int (nI m)), o4], [], (hp (M) (J) (R) (38) (43) nL xs (D))) = px_run (px_mk (kX5_readSum (px_ex px_tab (d)))) 8 ([some (Value.ref (37)), some (Value.int (nI o)), some (Value.int (w)), some (Value.int (nI (m + 1))), some (Value.int (nI jc))], [], (hp (M3) (J) (R) (38) (43) nL xs (D)))) ∧ (∀ (c e d : Nat) (M M1 M2 M3 : Nat → Nat → Int32) (o1 : Option Value), 3 ≤ d → MP T n S M → M 67 61 = -1 → px_ex px_tab (d) 211 [Value.ref (67)] (hp (M) (J) (R) (c) (e) nL xs (D)) = some (none, (hp (M1) (J) (R) (c) (e) nL xs (D))) → px_ex px_tab (d) 224 [Value.ref (67)] (hp (M1) (J) (R) (c) (e) nL xs (D)) = some (none, (hp (M2) (J) (R) (c) (e) nL xs (D))) → px_ex px_tab (d) 218 [Value.ref (67), Value.int (nI jm), Value.int (0)] (hp (M2) (J) (R) (c) (e) nL xs (D)) = some (none, (hp (M3) (J) (R) (c) (e) nL xs (D))) → px_run (px_mk (kX12_added (px_ex px_tab (d)))) 4 ([some (Value.ref (67)), o1], [], (hp (M) (J) (R) (c) (e) nL xs (D))) = px_run (px_mk (kX12_added (px_ex px_tab (d)))) 4 ([some (Value.ref (67)), some (Value.int (nI jm))], [], (hp (M3) (J) (R) (c) (e) nL xs (D)))) := by
        rcases ht with ht | ht
        · refine ⟨7, 5, by omega, by omega, by omega, rfl, ?_, ?_⟩
          · intro d M M1 M2 M3 w o4 hd hC a1 b1 c1
            have h6 : M 37 6 = nI (Pt S) := hC.2.1.2.2.1
            have c1' : px_ex px_tab (d) 40 [Value.ref (43), Value.int (5), Value.int (0)] (hp (M2) (J) (R) (38) (43) nL xs (D)) = some (none, (hp (M3) (J) (R) (38) (43) nL xs (D))) := c1
            rw [eX5_readSum_38_8, h6]
            simp (disch := omega) only [px_bd_s, px_psh_s, px_psh_n, px_vb_s, px_ib_s, px_wb_s, px_bo_s, px_bo_n, Bool.cond_decide, cond_true, cond_false, ite_not, Bool.and_true, if_true, if_false, not_true_eq_false, not_false_eq_true, i10, eq_self, decide_true, decide_false, Bool.or_true, Bool.true_or, Bool.or_false, Bool.false_or, Bool.false_eq_true, za160, if_neg, zs43, ht, eX5_readSum_38_37, h6, eX5_readSum_38_52, a1, eX5_readSum_38_52_3, b1, eX5_readSum_38_52_6, c1', eX5_readSum_38_52_12, zp1]
            rfl
          · intro c e d M M1 M2 M3 o1 hd hC h61 a1 b1 c1
            have h6 : M 67 59 = nI (mtk (Pt S)) := hC.2.2.1.2.2.1
            have w := m_wr_n J R nL xs D c e (d := d) (by omega) h61
            have c1' : px_ex px_tab (d) 218 [Value.ref (67), Value.int (7), Value.int (0)] (hp (M2) (J) (R) (c) (e) nL xs (D)) = some (none, (hp (M3) (J) (R) (c) (e) nL xs (D))) := c1
            rw [eX12_added_4, w]
            simp (disch := omega) only [px_bd_s, px_psh_s, px_psh_n, px_vb_s, px_ib_s, px_wb_s, px_bo_s, px_bo_n, Bool.cond_decide, cond_true, cond_false, ite_not, Bool.and_true, if_true, if_false, not_true_eq_false, not_false_eq_true, i10, eq_self, decide_true, decide_false, Bool.or_true, Bool.true_or, Bool.or_false, Bool.false_or, Bool.false_eq_true, eX12_added_4_2, h6, mz43, ht, eX12_added_29, eX12_added_45, a1, eX12_added_45_3, b1, eX12_added_45_5, c1', eX12_added_45_9]
            rfl
        · refine ⟨8, 6, by omega, by omega, by omega, rfl, ?_, ?_⟩
          · intro d M M1 M2 M3 w o4 hd hC a1 b1 c1
            have h6 : M 37 6 = nI (Pt S) := hC.2.1.2.2.1
            have c1' : px_ex px_tab (d) 40 [Value.ref (43), Value.int (6), Value.int (0)] (hp (M2) (J) (R) (38) (43) nL xs (D)) = some (none, (hp (M3) (J) (R) (38) (43) nL xs (D))) := c1
            rw [eX5_readSum_38_8, h6]
            simp (disch := omega) only [px_bd_s, px_psh_s, px_psh_n, px_vb_s, px_ib_s, px_wb_s, px_bo_s, px_bo_n, Bool.cond_decide, cond_true, cond_false, ite_not, Bool.and_true, if_true, if_false, not_true_eq_false, not_false_eq_true, i10, eq_self, decide_true, decide_false, Bool.or_true, Bool.true_or, Bool.or_false, Bool.false_or, Bool.false_eq_true, za160, if_neg, zs43, zs45, ht, show ¬ (45 : Nat) = 43 from by decide, eX5_readSum_38_37, h6, eX5_readSum_38_50, eX5_readSum_38_52, a1, eX5_readSum_38_52_3, b1, eX5_readSum_38_52_6, c1', eX5_readSum_38_52_12, zp1]
            rfl
          · intro c e d M M1 M2 M3 o1 hd hC h61 a1 b1 c1
            have h6 : M 67 59 = nI (mtk (Pt S)) := hC.2.2.1.2.2.1
            have w := m_wr_n J R nL xs D c e (d := d) (by omega) h61
            have c1' : px_ex px_tab (d) 218 [Value.ref (67), Value.int (8), Value.int (0)] (hp (M2) (J) (R) (c) (e) nL xs (D)) = some (none, (hp (M3) (J) (R) (c) (e) nL xs (D))) := c1
            rw [eX12_added_4, w]
            simp (disch := omega) only [px_bd_s, px_psh_s, px_psh_n, px_vb_s, px_ib_s, px_wb_s, px_bo_s, px_bo_n, Bool.cond_decide, cond_true, cond_false, ite_not, Bool.and_true, if_true, if_false, not_true_eq_false, not_false_eq_true, i10, eq_self, decide_true, decide_false, Bool.or_true, Bool.true_or, Bool.or_false, Bool.false_or, Bool.false_eq_true, eX12_added_4_2, h6, mz43, mz45, ht, show ¬ (45 : Nat) = 43 from by decide, eX12_added_29, eX12_added_43, eX12_added_45, a1, eX12_added_45_3, b1, eX12_added_45_5, c1', eX12_added_45_9]
            rfl
      subst hj4
      rcases hX (nx T n S) nV.1 with ⟨S2, g2, xc, xm⟩ | ⟨b, hb3, xc, xm⟩
      · obtain ⟨l1, l2, l3⟩ := PL_2 (j := jm) hV (by omega) g2 hj1 hj2 hj3
        have g160 : Pn S2 < 160 := by have := g2.1.1; have := g2.1.2.1; omega
        have l3' : m + 1 ≤ Pb (em S2 jm 0) := by
          show m + 1 ≤ Pb S2
          omega
        rcases ih (m + 1) (em S2 jm 0) l1.1 (by omega) l3' with ⟨S', i1, ic, im⟩ | ⟨b, hb3, ic, im⟩
        · refine Or.inl ⟨S', l1.tr i1, ?_, ?_⟩
          · intro d M o4 hd hC
            obtain ⟨M1, a1, a2, a3⟩ := c_nx_38 J R nL xs D (d := d) (by omega) v2 v3 hC
            obtain ⟨M2, b1, b2, b3⟩ := xc d M1 hd a2
            obtain ⟨M3, c1, c2, c3⟩ := c_em_38 J R nL xs D (d := d) (by omega) g160 b2 jm 0
            obtain ⟨M4, d1, d2, d3⟩ := ic d M3 (some (.int (nI (cls jm)))) hd c2
            exact ⟨M4, (wr d M M1 M2 M3 1 o4 (by omega) hC a1 b1 c1).trans d1, d2, ((a3.tr b3).tr c3).tr d3⟩
          · intro c e d M o1 hd hC h61 h62
            obtain ⟨M1, a1, a2, a3, a4, a5⟩ := m_nx J R nL xs D c e (d := d) (by omega) v2 v3 hC
            obtain ⟨M2, b1, b2, b3, b4, b5⟩ := xm c e d M1 hd a2 (a4.trans h61) (a5.trans h62)
            obtain ⟨M3, c1, c2, c3, c4, c5⟩ := m_em J R nL xs D c e (d := d) (by omega) g160 b2 jm 0
            obtain ⟨M4, d1, d2, d3, d4, d5⟩ := im c e d M3 (some (.int (nI jm))) hd c2 (c4.trans b4) (c5.trans b5)
            exact ⟨M4, (mr c e d M M1 M2 M3 o1 (by omega) hC h61 a1 b1 c1).trans d1, d2, ((a3.tr b3).tr c3).tr d3, d4, d5⟩
        · refine Or.inr ⟨b, hb3, ?_, ?_⟩
          · intro d M o4 hd hC
            obtain ⟨M1, a1, a2, a3⟩ := c_nx_38 J R nL xs D (d := d) (by omega) v2 v3 hC
            obtain ⟨M2, b1, b2, b3⟩ := xc d M1 hd a2
            obtain ⟨M3, c1, c2, c3⟩ := c_em_38 J R nL xs D (d := d) (by omega) g160 b2 jm 0
            obtain ⟨M4, d1, d2, d3⟩ := ic d M3 (some (.int (nI (cls jm)))) hd c2
            exact ⟨M4, (wr d M M1 M2 M3 1 o4 (by omega) hC a1 b1 c1).trans d1, d2, ((a3.tr b3).tr c3).tr d3⟩
          · intro c e d M o1 hd hC h61 h62
            obtain ⟨M1, a1, a2, a3, a4, a5⟩ := m_nx J R nL xs D c e (d := d) (by omega) v2 v3 hC
            obtain ⟨M2, b1, b2, b3, b4, b5⟩ := xm c e d M1 hd a2 (a4.trans h61) (a5.trans h62)
            obtain ⟨M3, c1, c2, c3, c4, c5⟩ := m_em J R nL xs D c e (d := d) (by omega) g160 b2 jm 0
            obtain ⟨M4, N, d1, d2, d2', d3, d4, d5⟩ := im c e d M3 (some (.int (nI jm))) hd c2 (c4.trans b4) (c5.trans b5)
            have l4 := l1.2.2.2.1
            exact ⟨M4, N, (mr c e d M M1 M2 M3 o1 (by omega) hC h61 a1 b1 c1).trans d1, d2, by omega, ((a3.tr b3).tr c3).tr d3, d4, d5⟩
      · refine Or.inr ⟨b, hb3, ?_, ?_⟩
        · intro d M o4 hd hC
          obtain ⟨M1, a1, a2, a3⟩ := c_nx_38 J R nL xs D (d := d) (by omega) v2 v3 hC
          obtain ⟨M2, b1, b2, b3⟩ := xc d M1 hd a2
          obtain ⟨M3, c1, c2, c3⟩ := c_em_f_38 J R nL xs D (d := d) (by omega) b2 (nI (cls jm)) 0
          refine ⟨M3, (wr d M M1 M2 M3 0 o4 (by omega) hC a1 b1 c1).trans ?_, c2, (a3.tr b3).tr c3⟩
          rw [eX5_readSum_38_8]
          by_cases hm2 : m + 1 < 160
          · simp (disch := omega) only [px_bd_s, px_psh_s, px_psh_n, px_vb_s, px_ib_s, px_wb_s, px_bo_s, px_bo_n, Bool.cond_decide, cond_true, cond_false, ite_not, Bool.and_true, if_true, if_false, not_true_eq_false, not_false_eq_true, i10, eq_self, decide_true, decide_false, Bool.or_true, Bool.true_or, Bool.or_false, Bool.false_or, Bool.false_eq_true, za160, if_neg, eX5_readSum_38_80]
          · simp (disch := omega) only [px_bd_s, px_psh_s, px_psh_n, px_vb_s, px_ib_s, px_wb_s, px_bo_s, px_bo_n, Bool.cond_decide, cond_true, cond_false, ite_not, Bool.and_true, if_true, if_false, not_true_eq_false, not_false_eq_true, i10, eq_self, decide_true, decide_false, Bool.or_true, Bool.true_or, Bool.or_false, Bool.false_or, Bool.false_eq_true, za160, if_pos, eX5_readSum_38_80]
        · intro c e d M o1 hd hC h61 h62
          obtain ⟨M1, a1, a2, a3, a4, a5⟩ := m_nx J R nL xs D c e (d := d) (by omega) v2 v3 hC
          obtain ⟨M2, N, b1, b2, b2', b3, b4, b5⟩ := xm c e d M1 hd a2 (a4.trans h61) (a5.trans h62)
          have nb := nV.2
          rw [e0] at b2'
          obtain ⟨M3, c1, c2, c3, c4, c5⟩ := m_em_f J R nL xs D c e (d := d) (by omega) (show N < 160 by omega) b2 (nI jm) 0
          have w := m_wr_y J R nL xs D c e (d := d) (by omega) (show b ≤ 160 by omega) (c4.trans b4)
          refine ⟨M3, N + 1, (mr c e d M M1 M2 M3 o1 (by omega) hC h61 a1 b1 c1).trans ?_, c2, by omega, (a3.tr b3).tr c3, c4.trans b4, c5.trans b5⟩
          simp only [px_bd_s, px_psh_s, px_psh_n, px_vb_s, px_ib_s, px_wb_s, px_bo_s, px_bo_n, Bool.cond_decide, cond_true, cond_false, ite_not, Bool.and_true, if_true, if_false, not_true_eq_false, not_false_eq_true, i10, eq_self, decide_true, decide_false, Bool.or_true, Bool.true_or, Bool.or_false, Bool.false_or, Bool.false_eq_true, eX12_added_4, w, eX12_added_4_2, eX12_added_63]
    · exact Or.inl (out m S hV (by omega) ht)
theorem p_sum_38 {T : Nat → Nat} {n kc km o : Nat} (hn : n ≤ 160) (hkc : 3 ≤ kc) (hkm : 3 ≤ km) (hX : XP J R 38 43 nL xs D T n kc km 57 224 o) : XP J R 38 43 nL xs D T n (kc + 1) (km + 1) 56 223 o := by
  intro S hV
  rcases hX S hV with ⟨S1, g, xc, xm⟩ | ⟨b, hb, xc, xm⟩
  · have cc : ∀ (d : Nat) (M M1 : Nat → Nat → Int32), px_ex px_tab (d) 57 [Value.ref (37), Value.int (nI o)] (hp (M) (J) (R) (38) (43) nL xs (D)) = some (some (Value.int (1)), (hp (M1) (J) (R) (38) (43) nL xs (D))) → px_ex px_tab (d + 1) 56 [Value.ref (37), Value.int (nI o)] (hp (M) (J) (R) (38) (43) nL xs (D)) = px_run (px_mk (kX5_readSum (px_ex px_tab (d)))) 8 ([some (Value.ref (37)), some (Value.int (nI o)), some (Value.int (1)), some (Value.int (0)), none], [], (hp (M1) (J) (R) (38) (43) nL xs (D))) := by
      intro d M M1 a1
      rw [xX5_readSum, eX5_readSum_38_0, a1]
      simp only [px_bd_s, px_psh_s, px_psh_n, px_vb_s, px_ib_s, px_wb_s, px_bo_s, px_bo_n, Bool.cond_decide, cond_true, cond_false, ite_not, Bool.and_true, if_true, if_false, not_true_eq_false, not_false_eq_true, i10, eq_self, decide_true, decide_false, Bool.or_true, Bool.true_or, Bool.or_false, Bool.false_or, Bool.false_eq_true, eX5_readSum_38_0_3]
    have mc : ∀ (c e d : Nat) (M M1 : Nat → Nat → Int32), px_ex px_tab (d) 224 [Value.ref (67)] (hp (M) (J) (R) (c) (e) nL xs (D)) = some (none, (hp (M1) (J) (R) (c) (e) nL xs (D))) → px_ex px_tab (d + 1) 223 [Value.ref (67)] (hp (M) (J) (R) (c) (e) nL xs (D)) = px_run (px_mk (kX12_added (px_ex px_tab (d)))) 4 ([some (Value.ref (67)), none], [], (hp (M1) (J) (R) (c) (e) nL xs (D))) := by
      intro c e d M M1 a1
      rw [xX12_added, eX12_added_0, a1]
      simp only [px_bd_s, px_psh_s, px_psh_n, px_vb_s, px_ib_s, px_wb_s, px_bo_s, px_bo_n, Bool.cond_decide, cond_true, cond_false, ite_not, Bool.and_true, if_true, if_false, not_true_eq_false, not_false_eq_true, i10, eq_self, decide_true, decide_false, Bool.or_true, Bool.true_or, Bool.or_false, Bool.false_or, Bool.false_eq_true, eX12_added_0_2]
    rcases l_sum_38 J R nL xs D hn hkc hkm hX 160 0 S1 g.1 (by omega) (Nat.zero_le _) with ⟨S', l, lc, lm⟩ | ⟨b, hb, lc, lm⟩
    · refine Or.inl ⟨S', g.pl l, ?_, ?_⟩
      · intro dc M hd hC
        obtain ⟨d, rfl⟩ : ∃ d', dc = d' + 1 := ⟨dc - 1, by omega⟩
        obtain ⟨M1, a1, a2, a3⟩ := xc d M (by omega) hC
        obtain ⟨M2, b1, b2, b3⟩ := lc d M1 none (by omega) a2
        exact ⟨M2, (cc d M M1 a1).trans b1, b2, a3.tr b3⟩
      · intro c e dm M hd hC h61 h62
        obtain ⟨d, rfl⟩ : ∃ d', dm = d' + 1 := ⟨dm - 1, by omega⟩
        obtain ⟨M1, a1, a2, a3, a4, a5⟩ := xm c e d M (by omega) hC h61 h62
        obtain ⟨M2, b1, b2, b3, b4, b5⟩ := lm c e d M1 none (by omega) a2 a4 a5
        exact ⟨M2, (mc c e d M M1 a1).trans b1, b2, a3.tr b3, b4, b5⟩
    · refine Or.inr ⟨b, hb, ?_, ?_⟩
      · intro dc M hd hC
        obtain ⟨d, rfl⟩ : ∃ d', dc = d' + 1 := ⟨dc - 1, by omega⟩
        obtain ⟨M1, a1, a2, a3⟩ := xc d M (by omega) hC
        obtain ⟨M2, b1, b2, b3⟩ := lc d M1 none (by omega) a2
        exact ⟨M2, (cc d M M1 a1).trans b1, b2, a3.tr b3⟩
      · intro c e dm M hd hC h61 h62
        obtain ⟨d, rfl⟩ : ∃ d', dm = d' + 1 := ⟨dm - 1, by omega⟩
        obtain ⟨M1, a1, a2, a3, a4, a5⟩ := xm c e d M (by omega) hC h61 h62
        obtain ⟨M2, N, b1, b2, b2', b3, b4, b5⟩ := lm c e d M1 none (by omega) a2 a4 a5
        have g4 := g.2.2.2.1
        exact ⟨M2, N, (mc c e d M M1 a1).trans b1, b2, by omega, a3.tr b3, b4, b5⟩
  · refine Or.inr ⟨b, hb, ?_, ?_⟩
    · intro dc M hd hC
      obtain ⟨d, rfl⟩ : ∃ d', dc = d' + 1 := ⟨dc - 1, by omega⟩
      obtain ⟨M1, a1, a2, a3⟩ := xc d M (by omega) hC
      refine ⟨M1, ?_, a2, a3⟩
      rw [xX5_readSum, eX5_readSum_38_0, a1]
      simp only [px_bd_s, px_psh_s, px_psh_n, px_vb_s, px_ib_s, px_wb_s, px_bo_s, px_bo_n, Bool.cond_decide, cond_true, cond_false, ite_not, Bool.and_true, if_true, if_false, not_true_eq_false, not_false_eq_true, i10, eq_self, decide_true, decide_false, Bool.or_true, Bool.true_or, Bool.or_false, Bool.false_or, Bool.false_eq_true, eX5_readSum_38_0_3, eX5_readSum_38_8, show ¬ (160 : Int32) ≤ 0 from by decide, eX5_readSum_38_80]
    · intro c e dm M hd hC h61 h62
      obtain ⟨d, rfl⟩ : ∃ d', dm = d' + 1 := ⟨dm - 1, by omega⟩
      obtain ⟨M1, N, a1, a2, a2', a3, a4, a5⟩ := xm c e d M (by omega) hC h61 h62
      refine ⟨M1, N, ?_, a2, a2', a3, a4, a5⟩
      have w := m_wr_y J R nL xs D c e (d := d) (by omega) (show b ≤ 160 by omega) a4
      rw [xX12_added, eX12_added_0, a1]
      simp only [px_bd_s, px_psh_s, px_psh_n, px_vb_s, px_ib_s, px_wb_s, px_bo_s, px_bo_n, Bool.cond_decide, cond_true, cond_false, ite_not, Bool.and_true, if_true, if_false, not_true_eq_false, not_false_eq_true, i10, eq_self, decide_true, decide_false, Bool.or_true, Bool.true_or, Bool.or_false, Bool.false_or, Bool.false_eq_true, eX12_added_0_2, eX12_added_4, w, eX12_added_4_2, eX12_added_63]
theorem l_sum_43 {T : Nat → Nat} {n kc km o : Nat} (hn : n ≤ 160) (hkc : 3 ≤ kc) (hkm : 3 ≤ km) (hX : XP J R 43 38 nL xs D T n kc km 57 224 o) : ∀ (g m : Nat) (S : PS), PV n S → m + g = 160 → m ≤ Pb S → (∃ S', PL n S S' ∧ (∀ d M  (o4 : Option Value), kc ≤ d → CP 38 T n S M → ∃ M1, px_run (px_mk (kX5_readSum (px_ex px_tab (d)))) 8 ([some (Value.ref (37)), some (Value.int (nI o)), some (Value.int (1)), some (Value.int (nI m)), o4], [], (hp (M) (J) (R) (43) (38) nL xs (D))) = some (some (Value.int (1)), (hp (M1) (J) (R) (43) (38) nL xs (D))) ∧ CP 38 T n S' M1 ∧ CF 38 M M1) ∧ (∀ c e d M  (o1 : Option Value), km ≤ d → MP T n S M → M 67 61 = -1 → M 67 62 = nI o → ∃ M1, px_run (px_mk (kX12_added (px_ex px_tab (d)))) 4 ([some (Value.ref (67)), o1], [], (hp (M) (J) (R) (c) (e) nL xs (D))) = some (none, (hp (M1) (J) (R) (c) (e) nL xs (D))) ∧ MP T n S' M1 ∧ MF M M1 ∧ M1 67 61 = -1 ∧ M1 67 62 = nI o)) ∨ (∃ b, b ≤ n ∧ (∀ d M  (o4 : Option Value), kc ≤ d → CP 38 T n S M → ∃ M1, px_run (px_mk (kX5_readSum (px_ex px_tab (d)))) 8 ([some (Value.ref (37)), some (Value.int (nI o)), some (Value.int (1)), some (Value.int (nI m)), o4], [], (hp (M) (J) (R) (43) (38) nL xs (D))) = some (some (Value.int (0)), (hp (M1) (J) (R) (43) (38) nL xs (D))) ∧ CN 38 T n b M1 ∧ CF 38 M M1) ∧ (∀ c e d M  (o1 : Option Value), km ≤ d → MP T n S M → M 67 61 = -1 → M 67 62 = nI o → ∃ M1 N, px_run (px_mk (kX12_added (px_ex px_tab (d)))) 4 ([some (Value.ref (67)), o1], [], (hp (M) (J) (R) (c) (e) nL xs (D))) = some (none, (hp (M1) (J) (R) (c) (e) nL xs (D))) ∧ MN N M1 ∧ N + Pb S ≤ Pn S + n ∧ MF M M1 ∧ M1 67 61 = nI b ∧ M1 67 62 = nI o)) := by
  have out : ∀ (m : Nat) (S : PS), PV n S → m ≤ 160 → ¬ (Pt S = 43 ∨ Pt S = 45) → (∃ S', PL n S S' ∧ (∀ d M  (o4 : Option Value), kc ≤ d → CP 38 T n S M → ∃ M1, px_run (px_mk (kX5_readSum (px_ex px_tab (d)))) 8 ([some (Value.ref (37)), some (Value.int (nI o)), some (Value.int (1)), some (Value.int (nI m)), o4], [], (hp (M) (J) (R) (43) (38) nL xs (D))) = some (some (Value.int (1)), (hp (M1) (J) (R) (43) (38) nL xs (D))) ∧ CP 38 T n S' M1 ∧ CF 38 M M1) ∧ (∀ c e d M  (o1 : Option Value), km ≤ d → MP T n S M → M 67 61 = -1 → M 67 62 = nI o → ∃ M1, px_run (px_mk (kX12_added (px_ex px_tab (d)))) 4 ([some (Value.ref (67)), o1], [], (hp (M) (J) (R) (c) (e) nL xs (D))) = some (none, (hp (M1) (J) (R) (c) (e) nL xs (D))) ∧ MP T n S' M1 ∧ MF M M1 ∧ M1 67 61 = -1 ∧ M1 67 62 = nI o)) := by
    intro m S hV hm ht
    have t61 := hV.2.2.2.1
    have h43 : ¬ Pt S = 43 := fun q => ht (Or.inl q)
    have h45 : ¬ Pt S = 45 := fun q => ht (Or.inr q)
    refine ⟨S, PL.rf hV, fun d M o4 hd hC => ⟨M, ?_, hC, CF.rf _ _⟩, fun c e d M o1 hd hC h61 h62 => ⟨M, ?_, hC, MF.rf _, h61, h62⟩⟩
    · have h6 : M 37 6 = nI (Pt S) := hC.2.1.2.2.1
      rw [eX5_readSum_43_8, h6]
      by_cases hm2 : m < 160
      · simp (disch := omega) only [px_bd_s, px_psh_s, px_psh_n, px_vb_s, px_ib_s, px_wb_s, px_bo_s, px_bo_n, Bool.cond_decide, cond_true, cond_false, ite_not, Bool.and_true, if_true, if_false, not_true_eq_false, not_false_eq_true, i10, eq_self, decide_true, decide_false, Bool.or_true, Bool.true_or, Bool.or_false, Bool.false_or, Bool.false_eq_true, za160, if_neg, zs43, zs45, h43, h45, not_false_eq_true, eX5_readSum_43_80]
      · simp (disch := omega) only [px_bd_s, px_psh_s, px_psh_n, px_vb_s, px_ib_s, px_wb_s, px_bo_s, px_bo_n, Bool.cond_decide, cond_true, cond_false, ite_not, Bool.and_true, if_true, if_false, not_true_eq_false, not_false_eq_true, i10, eq_self, decide_true, decide_false, Bool.or_true, Bool.true_or, Bool.or_false, Bool.false_or, Bool.false_eq_true, za160, if_pos, eX5_readSum_43_80]
    · have h6 : M 67 59 = nI (mtk (Pt S)) := hC.2.2.1.2.2.1
      have w := m_wr_n J R nL xs D c e (d := d) (by omega) h61
      rw [eX12_added_4, w]
      simp (disch := omega) only [px_bd_s, px_psh_s, px_psh_n, px_vb_s, px_ib_s, px_wb_s, px_bo_s, px_bo_n, Bool.cond_decide, cond_true, cond_false, ite_not, Bool.and_true, if_true, if_false, not_true_eq_false, not_false_eq_true, i10, eq_self, decide_true, decide_false, Bool.or_true, Bool.true_or, Bool.or_false, Bool.false_or, Bool.false_eq_true, eX12_added_4_2, h6, mz43, mz45, h43, h45, eX12_added_63]
  intro g
  induction g with
  | zero =>
    intro m S hV hm hb
    have v1 := hV.1
    have v2 := hV.2.1
    have v5 := hV.2.2.2.2.1
    exact Or.inl (out m S hV (by omega) (by omega))
  | succ g ih =>
    intro m S hV hm hb
    obtain ⟨v1, v2, v3, t61, v5, v6, v7⟩ := id hV
    have nV := nx_V T hV
    have e0 : Pn (nx T n S) = Pn S := rfl
    by_cases ht : Pt S = 43 ∨ Pt S = 45
    · have hb2 := v5 (by omega)
      obtain ⟨jm, jc, hj1, hj2, hj3, hj4, wr, mr⟩ : ∃ (jm jc : Nat), jm ≤ 10 ∧ ¬ (jm = 0 ∨ jm = 1) ∧ ¬ (jm = 4 ∨ jm = 10) ∧ jc = cls jm ∧ (∀ (d : Nat) (M M1 M2 M3 : Nat → Nat → Int32) (w : Int32) (o4 : Option Value), 3 ≤ d → CP 38 T n S M → px_ex px_tab (d) 61 [Value.ref (37)] (hp (M) (J) (R) (43) (38) nL xs (D)) = some (none, (hp (M1) (J) (R) (43) (38) nL xs (D))) → px_ex px_tab (d) 57 [Value.ref (37), Value.int (nI o)] (hp (M1) (J) (R) (43) (38) nL xs (D)) = some (some (Value.int (w)), (hp (M2) (J) (R) (43) (38) nL xs (D))) → px_ex px_tab (d) 40 [Value.ref (38), Value.int (nI jc), Value.int (0)] (hp (M2) (J) (R) (43) (38) nL xs (D)) = some (none, (hp (M3) (J) (R) (43) (38) nL xs (D))) → px_run (px_mk (kX5_readSum (px_ex px_tab (d)))) 8 ([some (Value.ref (37)), some (Value.int (nI o)), some (Value.int (1)), some (Value.int (nI m)), o4], [], (hp (M) (J) (R) (43) (38) nL xs (D))) = px_run (px_mk (kX5_readSum (px_ex px_tab (d)))) 8 ([some (Value.ref (37)), some (Value.int (nI o)), some (Value.int (w)), some (Value.int (nI (m + 1))), some (Value.int (nI jc))], [], (hp (M3) (J) (R) (43) (38) nL xs (D)))) ∧ (∀ (c e d : Nat) (M M1 M2 M3 : Nat → Nat → Int32) (o1 : Option Value), 3 ≤ d → MP T n S M → M 67 61 = -1 → px_ex px_tab (d) 211 [Value.ref (67)] (hp (M) (J) (R) (c) (e) nL xs (D)) = some (none, (hp (M1) (J) (R) (c) (e) nL xs (D))) → px_ex px_tab (d) 224 [Value.ref (67)] (hp (M1) (J) (R) (c) (e) nL xs (D)) = some (none, (hp (M2) (J) (R) (c) (e) nL xs (D))) → px_ex px_tab (d) 218 [Value.ref (67), Value.int (nI jm), Value.int (0)] (hp (M2) (J) (R) (c) (e) nL xs (D)) = some (none, (hp (M3) (J) (R) (c) (e) nL xs (D))) → px_run (px_mk (kX12_added (px_ex px_tab (d)))) 4 ([some (Value.ref (67)), o1], [], (hp (M) (J) (R) (c) (e) nL xs (D))) = px_run (px_mk (kX12_added (px_ex px_tab (d)))) 4 ([some (Value.ref (67)), some (Value.int (nI jm))], [], (hp (M3) (J) (R) (c) (e) nL xs (D)))) := by
        rcases ht with ht | ht
        · refine ⟨7, 5, by omega, by omega, by omega, rfl, ?_, ?_⟩
          · intro d M M1 M2 M3 w o4 hd hC a1 b1 c1
            have h6 : M 37 6 = nI (Pt S) := hC.2.1.2.2.1
            have c1' : px_ex px_tab (d) 40 [Value.ref (38), Value.int (5), Value.int (0)] (hp (M2) (J) (R) (43) (38) nL xs (D)) = some (none, (hp (M3) (J) (R) (43) (38) nL xs (D))) := c1
            rw [eX5_readSum_43_8, h6]
            simp (disch := omega) only [px_bd_s, px_psh_s, px_psh_n, px_vb_s, px_ib_s, px_wb_s, px_bo_s, px_bo_n, Bool.cond_decide, cond_true, cond_false, ite_not, Bool.and_true, if_true, if_false, not_true_eq_false, not_false_eq_true, i10, eq_self, decide_true, decide_false, Bool.or_true, Bool.true_or, Bool.or_false, Bool.false_or, Bool.false_eq_true, za160, if_neg, zs43, ht, eX5_readSum_43_37, h6, eX5_readSum_43_52, a1, eX5_readSum_43_52_3, b1, eX5_readSum_43_52_6, c1', eX5_readSum_43_52_12, zp1]
            rfl
          · intro c e d M M1 M2 M3 o1 hd hC h61 a1 b1 c1
            have h6 : M 67 59 = nI (mtk (Pt S)) := hC.2.2.1.2.2.1
            have w := m_wr_n J R nL xs D c e (d := d) (by omega) h61
            have c1' : px_ex px_tab (d) 218 [Value.ref (67), Value.int (7), Value.int (0)] (hp (M2) (J) (R) (c) (e) nL xs (D)) = some (none, (hp (M3) (J) (R) (c) (e) nL xs (D))) := c1
            rw [eX12_added_4, w]
            simp (disch := omega) only [px_bd_s, px_psh_s, px_psh_n, px_vb_s, px_ib_s, px_wb_s, px_bo_s, px_bo_n, Bool.cond_decide, cond_true, cond_false, ite_not, Bool.and_true, if_true, if_false, not_true_eq_false, not_false_eq_true, i10, eq_self, decide_true, decide_false, Bool.or_true, Bool.true_or, Bool.or_false, Bool.false_or, Bool.false_eq_true, eX12_added_4_2, h6, mz43, ht, eX12_added_29, eX12_added_45, a1, eX12_added_45_3, b1, eX12_added_45_5, c1', eX12_added_45_9]
            rfl
        · refine ⟨8, 6, by omega, by omega, by omega, rfl, ?_, ?_⟩
          · intro d M M1 M2 M3 w o4 hd hC a1 b1 c1
            have h6 : M 37 6 = nI (Pt S) := hC.2.1.2.2.1
            have c1' : px_ex px_tab (d) 40 [Value.ref (38), Value.int (6), Value.int (0)] (hp (M2) (J) (R) (43) (38) nL xs (D)) = some (none, (hp (M3) (J) (R) (43) (38) nL xs (D))) := c1
            rw [eX5_readSum_43_8, h6]
            simp (disch := omega) only [px_bd_s, px_psh_s, px_psh_n, px_vb_s, px_ib_s, px_wb_s, px_bo_s, px_bo_n, Bool.cond_decide, cond_true, cond_false, ite_not, Bool.and_true, if_true, if_false, not_true_eq_false, not_false_eq_true, i10, eq_self, decide_true, decide_false, Bool.or_true, Bool.true_or, Bool.or_false, Bool.false_or, Bool.false_eq_true, za160, if_neg, zs43, zs45, ht, show ¬ (45 : Nat) = 43 from by decide, eX5_readSum_43_37, h6, eX5_readSum_43_50, eX5_readSum_43_52, a1, eX5_readSum_43_52_3, b1, eX5_readSum_43_52_6, c1', eX5_readSum_43_52_12, zp1]
            rfl
          · intro c e d M M1 M2 M3 o1 hd hC h61 a1 b1 c1
            have h6 : M 67 59 = nI (mtk (Pt S)) := hC.2.2.1.2.2.1
            have w := m_wr_n J R nL xs D c e (d := d) (by omega) h61
            have c1' : px_ex px_tab (d) 218 [Value.ref (67), Value.int (8), Value.int (0)] (hp (M2) (J) (R) (c) (e) nL xs (D)) = some (none, (hp (M3) (J) (R) (c) (e) nL xs (D))) := c1
            rw [eX12_added_4, w]
            simp (disch := omega) only [px_bd_s, px_psh_s, px_psh_n, px_vb_s, px_ib_s, px_wb_s, px_bo_s, px_bo_n, Bool.cond_decide, cond_true, cond_false, ite_not, Bool.and_true, if_true, if_false, not_true_eq_false, not_false_eq_true, i10, eq_self, decide_true, decide_false, Bool.or_true, Bool.true_or, Bool.or_false, Bool.false_or, Bool.false_eq_true, eX12_added_4_2, h6, mz43, mz45, ht, show ¬ (45 : Nat) = 43 from by decide, eX12_added_29, eX12_added_43, eX12_added_45, a1, eX12_added_45_3, b1, eX12_added_45_5, c1', eX12_added_45_9]
            rfl
      subst hj4
      rcases hX (nx T n S) nV.1 with ⟨S2, g2, xc, xm⟩ | ⟨b, hb3, xc, xm⟩
      · obtain ⟨l1, l2, l3⟩ := PL_2 (j := jm) hV (by omega) g2 hj1 hj2 hj3
        have g160 : Pn S2 < 160 := by have := g2.1.1; have := g2.1.2.1; omega
        have l3' : m + 1 ≤ Pb (em S2 jm 0) := by
          show m + 1 ≤ Pb S2
          omega
        rcases ih (m + 1) (em S2 jm 0) l1.1 (by omega) l3' with ⟨S', i1, ic, im⟩ | ⟨b, hb3, ic, im⟩
        · refine Or.inl ⟨S', l1.tr i1, ?_, ?_⟩
          · intro d M o4 hd hC
            obtain ⟨M1, a1, a2, a3⟩ := c_nx_43 J R nL xs D (d := d) (by omega) v2 v3 hC
            obtain ⟨M2, b1, b2, b3⟩ := xc d M1 hd a2
            obtain ⟨M3, c1, c2, c3⟩ := c_em_43 J R nL xs D (d := d) (by omega) g160 b2 jm 0
            obtain ⟨M4, d1, d2, d3⟩ := ic d M3 (some (.int (nI (cls jm)))) hd c2
            exact ⟨M4, (wr d M M1 M2 M3 1 o4 (by omega) hC a1 b1 c1).trans d1, d2, ((a3.tr b3).tr c3).tr d3⟩
          · intro c e d M o1 hd hC h61 h62
            obtain ⟨M1, a1, a2, a3, a4, a5⟩ := m_nx J R nL xs D c e (d := d) (by omega) v2 v3 hC
            obtain ⟨M2, b1, b2, b3, b4, b5⟩ := xm c e d M1 hd a2 (a4.trans h61) (a5.trans h62)
            obtain ⟨M3, c1, c2, c3, c4, c5⟩ := m_em J R nL xs D c e (d := d) (by omega) g160 b2 jm 0
            obtain ⟨M4, d1, d2, d3, d4, d5⟩ := im c e d M3 (some (.int (nI jm))) hd c2 (c4.trans b4) (c5.trans b5)
            exact ⟨M4, (mr c e d M M1 M2 M3 o1 (by omega) hC h61 a1 b1 c1).trans d1, d2, ((a3.tr b3).tr c3).tr d3, d4, d5⟩
        · refine Or.inr ⟨b, hb3, ?_, ?_⟩
          · intro d M o4 hd hC
            obtain ⟨M1, a1, a2, a3⟩ := c_nx_43 J R nL xs D (d := d) (by omega) v2 v3 hC
            obtain ⟨M2, b1, b2, b3⟩ := xc d M1 hd a2
            obtain ⟨M3, c1, c2, c3⟩ := c_em_43 J R nL xs D (d := d) (by omega) g160 b2 jm 0
            obtain ⟨M4, d1, d2, d3⟩ := ic d M3 (some (.int (nI (cls jm)))) hd c2
            exact ⟨M4, (wr d M M1 M2 M3 1 o4 (by omega) hC a1 b1 c1).trans d1, d2, ((a3.tr b3).tr c3).tr d3⟩
          · intro c e d M o1 hd hC h61 h62
            obtain ⟨M1, a1, a2, a3, a4, a5⟩ := m_nx J R nL xs D c e (d := d) (by omega) v2 v3 hC
            obtain ⟨M2, b1, b2, b3, b4, b5⟩ := xm c e d M1 hd a2 (a4.trans h61) (a5.trans h62)
            obtain ⟨M3, c1, c2, c3, c4, c5⟩ := m_em J R nL xs D c e (d := d) (by omega) g160 b2 jm 0
            obtain ⟨M4, N, d1, d2, d2', d3, d4, d5⟩ := im c e d M3 (some (.int (nI jm))) hd c2 (c4.trans b4) (c5.trans b5)
            have l4 := l1.2.2.2.1
            exact ⟨M4, N, (mr c e d M M1 M2 M3 o1 (by omega) hC h61 a1 b1 c1).trans d1, d2, by omega, ((a3.tr b3).tr c3).tr d3, d4, d5⟩
      · refine Or.inr ⟨b, hb3, ?_, ?_⟩
        · intro d M o4 hd hC
          obtain ⟨M1, a1, a2, a3⟩ := c_nx_43 J R nL xs D (d := d) (by omega) v2 v3 hC
          obtain ⟨M2, b1, b2, b3⟩ := xc d M1 hd a2
          obtain ⟨M3, c1, c2, c3⟩ := c_em_f_43 J R nL xs D (d := d) (by omega) b2 (nI (cls jm)) 0
          refine ⟨M3, (wr d M M1 M2 M3 0 o4 (by omega) hC a1 b1 c1).trans ?_, c2, (a3.tr b3).tr c3⟩
          rw [eX5_readSum_43_8]
          by_cases hm2 : m + 1 < 160
          · simp (disch := omega) only [px_bd_s, px_psh_s, px_psh_n, px_vb_s, px_ib_s, px_wb_s, px_bo_s, px_bo_n, Bool.cond_decide, cond_true, cond_false, ite_not, Bool.and_true, if_true, if_false, not_true_eq_false, not_false_eq_true, i10, eq_self, decide_true, decide_false, Bool.or_true, Bool.true_or, Bool.or_false, Bool.false_or, Bool.false_eq_true, za160, if_neg, eX5_readSum_43_80]
          · simp (disch := omega) only [px_bd_s, px_psh_s, px_psh_n, px_vb_s, px_ib_s, px_wb_s, px_bo_s, px_bo_n, Bool.cond_decide, cond_true, cond_false, ite_not, Bool.and_true, if_true, if_false, not_true_eq_false, not_false_eq_true, i10, eq_self, decide_true, decide_false, Bool.or_true, Bool.true_or, Bool.or_false, Bool.false_or, Bool.false_eq_true, za160, if_pos, eX5_readSum_43_80]
        · intro c e d M o1 hd hC h61 h62
          obtain ⟨M1, a1, a2, a3, a4, a5⟩ := m_nx J R nL xs D c e (d := d) (by omega) v2 v3 hC
          obtain ⟨M2, N, b1, b2, b2', b3, b4, b5⟩ := xm c e d M1 hd a2 (a4.trans h61) (a5.trans h62)
          have nb := nV.2
          rw [e0] at b2'
          obtain ⟨M3, c1, c2, c3, c4, c5⟩ := m_em_f J R nL xs D c e (d := d) (by omega) (show N < 160 by omega) b2 (nI jm) 0
          have w := m_wr_y J R nL xs D c e (d := d) (by omega) (show b ≤ 160 by omega) (c4.trans b4)
          refine ⟨M3, N + 1, (mr c e d M M1 M2 M3 o1 (by omega) hC h61 a1 b1 c1).trans ?_, c2, by omega, (a3.tr b3).tr c3, c4.trans b4, c5.trans b5⟩
          simp only [px_bd_s, px_psh_s, px_psh_n, px_vb_s, px_ib_s, px_wb_s, px_bo_s, px_bo_n, Bool.cond_decide, cond_true, cond_false, ite_not, Bool.and_true, if_true, if_false, not_true_eq_false, not_false_eq_true, i10, eq_self, decide_true, decide_false, Bool.or_true, Bool.true_or, Bool.or_false, Bool.false_or, Bool.false_eq_true, eX12_added_4, w, eX12_added_4_2, eX12_added_63]
    · exact Or.inl (out m S hV (by omega) ht)
theorem p_sum_43 {T : Nat → Nat} {n kc km o : Nat} (hn : n ≤ 160) (hkc : 3 ≤ kc) (hkm : 3 ≤ km) (hX : XP J R 43 38 nL xs D T n kc km 57 224 o) : XP J R 43 38 nL xs D T n (kc + 1) (km + 1) 56 223 o := by
  intro S hV
  rcases hX S hV with ⟨S1, g, xc, xm⟩ | ⟨b, hb, xc, xm⟩
  · have cc : ∀ (d : Nat) (M M1 : Nat → Nat → Int32), px_ex px_tab (d) 57 [Value.ref (37), Value.int (nI o)] (hp (M) (J) (R) (43) (38) nL xs (D)) = some (some (Value.int (1)), (hp (M1) (J) (R) (43) (38) nL xs (D))) → px_ex px_tab (d + 1) 56 [Value.ref (37), Value.int (nI o)] (hp (M) (J) (R) (43) (38) nL xs (D)) = px_run (px_mk (kX5_readSum (px_ex px_tab (d)))) 8 ([some (Value.ref (37)), some (Value.int (nI o)), some (Value.int (1)), some (Value.int (0)), none], [], (hp (M1) (J) (R) (43) (38) nL xs (D))) := by
      intro d M M1 a1
      rw [xX5_readSum, eX5_readSum_43_0, a1]
      simp only [px_bd_s, px_psh_s, px_psh_n, px_vb_s, px_ib_s, px_wb_s, px_bo_s, px_bo_n, Bool.cond_decide, cond_true, cond_false, ite_not, Bool.and_true, if_true, if_false, not_true_eq_false, not_false_eq_true, i10, eq_self, decide_true, decide_false, Bool.or_true, Bool.true_or, Bool.or_false, Bool.false_or, Bool.false_eq_true, eX5_readSum_43_0_3]
    have mc : ∀ (c e d : Nat) (M M1 : Nat → Nat → Int32), px_ex px_tab (d) 224 [Value.ref (67)] (hp (M) (J) (R) (c) (e) nL xs (D)) = some (none, (hp (M1) (J) (R) (c) (e) nL xs (D))) → px_ex px_tab (d + 1) 223 [Value.ref (67)] (hp (M) (J) (R) (c) (e) nL xs (D)) = px_run (px_mk (kX12_added (px_ex px_tab (d)))) 4 ([some (Value.ref (67)), none], [], (hp (M1) (J) (R) (c) (e) nL xs (D))) := by
      intro c e d M M1 a1
      rw [xX12_added, eX12_added_0, a1]
      simp only [px_bd_s, px_psh_s, px_psh_n, px_vb_s, px_ib_s, px_wb_s, px_bo_s, px_bo_n, Bool.cond_decide, cond_true, cond_false, ite_not, Bool.and_true, if_true, if_false, not_true_eq_false, not_false_eq_true, i10, eq_self, decide_true, decide_false, Bool.or_true, Bool.true_or, Bool.or_false, Bool.false_or, Bool.false_eq_true, eX12_added_0_2]
    rcases l_sum_43 J R nL xs D hn hkc hkm hX 160 0 S1 g.1 (by omega) (Nat.zero_le _) with ⟨S', l, lc, lm⟩ | ⟨b, hb, lc, lm⟩
    · refine Or.inl ⟨S', g.pl l, ?_, ?_⟩
      · intro dc M hd hC
        obtain ⟨d, rfl⟩ : ∃ d', dc = d' + 1 := ⟨dc - 1, by omega⟩
        obtain ⟨M1, a1, a2, a3⟩ := xc d M (by omega) hC
        obtain ⟨M2, b1, b2, b3⟩ := lc d M1 none (by omega) a2
        exact ⟨M2, (cc d M M1 a1).trans b1, b2, a3.tr b3⟩
      · intro c e dm M hd hC h61 h62
        obtain ⟨d, rfl⟩ : ∃ d', dm = d' + 1 := ⟨dm - 1, by omega⟩
        obtain ⟨M1, a1, a2, a3, a4, a5⟩ := xm c e d M (by omega) hC h61 h62
        obtain ⟨M2, b1, b2, b3, b4, b5⟩ := lm c e d M1 none (by omega) a2 a4 a5
        exact ⟨M2, (mc c e d M M1 a1).trans b1, b2, a3.tr b3, b4, b5⟩
    · refine Or.inr ⟨b, hb, ?_, ?_⟩
      · intro dc M hd hC
        obtain ⟨d, rfl⟩ : ∃ d', dc = d' + 1 := ⟨dc - 1, by omega⟩
        obtain ⟨M1, a1, a2, a3⟩ := xc d M (by omega) hC
        obtain ⟨M2, b1, b2, b3⟩ := lc d M1 none (by omega) a2
        exact ⟨M2, (cc d M M1 a1).trans b1, b2, a3.tr b3⟩
      · intro c e dm M hd hC h61 h62
        obtain ⟨d, rfl⟩ : ∃ d', dm = d' + 1 := ⟨dm - 1, by omega⟩
        obtain ⟨M1, a1, a2, a3, a4, a5⟩ := xm c e d M (by omega) hC h61 h62
        obtain ⟨M2, N, b1, b2, b2', b3, b4, b5⟩ := lm c e d M1 none (by omega) a2 a4 a5
        have g4 := g.2.2.2.1
        exact ⟨M2, N, (mc c e d M M1 a1).trans b1, b2, by omega, a3.tr b3, b4, b5⟩
  · refine Or.inr ⟨b, hb, ?_, ?_⟩
    · intro dc M hd hC
      obtain ⟨d, rfl⟩ : ∃ d', dc = d' + 1 := ⟨dc - 1, by omega⟩
      obtain ⟨M1, a1, a2, a3⟩ := xc d M (by omega) hC
      refine ⟨M1, ?_, a2, a3⟩
      rw [xX5_readSum, eX5_readSum_43_0, a1]
      simp only [px_bd_s, px_psh_s, px_psh_n, px_vb_s, px_ib_s, px_wb_s, px_bo_s, px_bo_n, Bool.cond_decide, cond_true, cond_false, ite_not, Bool.and_true, if_true, if_false, not_true_eq_false, not_false_eq_true, i10, eq_self, decide_true, decide_false, Bool.or_true, Bool.true_or, Bool.or_false, Bool.false_or, Bool.false_eq_true, eX5_readSum_43_0_3, eX5_readSum_43_8, show ¬ (160 : Int32) ≤ 0 from by decide, eX5_readSum_43_80]
    · intro c e dm M hd hC h61 h62
      obtain ⟨d, rfl⟩ : ∃ d', dm = d' + 1 := ⟨dm - 1, by omega⟩
      obtain ⟨M1, N, a1, a2, a2', a3, a4, a5⟩ := xm c e d M (by omega) hC h61 h62
      refine ⟨M1, N, ?_, a2, a2', a3, a4, a5⟩
      have w := m_wr_y J R nL xs D c e (d := d) (by omega) (show b ≤ 160 by omega) a4
      rw [xX12_added, eX12_added_0, a1]
      simp only [px_bd_s, px_psh_s, px_psh_n, px_vb_s, px_ib_s, px_wb_s, px_bo_s, px_bo_n, Bool.cond_decide, cond_true, cond_false, ite_not, Bool.and_true, if_true, if_false, not_true_eq_false, not_false_eq_true, i10, eq_self, decide_true, decide_false, Bool.or_true, Bool.true_or, Bool.or_false, Bool.false_or, Bool.false_eq_true, eX12_added_0_2, eX12_added_4, w, eX12_added_4_2, eX12_added_63]
theorem l_and_38 {T : Nat → Nat} {n kc km o : Nat} (hn : n ≤ 160) (hkc : 3 ≤ kc) (hkm : 3 ≤ km) (hX : XP J R 38 43 nL xs D T n kc km 54 222 o) : ∀ (g m : Nat) (S : PS), PV n S → m + g = 160 → m ≤ Pb S → (∃ S', PL n S S' ∧ (∀ d M , kc ≤ d → CP 43 T n S M → ∃ M1, px_run (px_mk (kX5_readAnd (px_ex px_tab (d)))) 8 ([some (Value.ref (37)), some (Value.int (nI o)), some (Value.int (1)), some (Value.int (nI m))], [], (hp (M) (J) (R) (38) (43) nL xs (D))) = some (some (Value.int (1)), (hp (M1) (J) (R) (38) (43) nL xs (D))) ∧ CP 43 T n S' M1 ∧ CF 43 M M1) ∧ (∀ c e d M , km ≤ d → MP T n S M → M 67 61 = -1 → M 67 62 = nI o → ∃ M1, px_run (px_mk (kX12_both (px_ex px_tab (d)))) 4 ([some (Value.ref (67))], [], (hp (M) (J) (R) (c) (e) nL xs (D))) = some (none, (hp (M1) (J) (R) (c) (e) nL xs (D))) ∧ MP T n S' M1 ∧ MF M M1 ∧ M1 67 61 = -1 ∧ M1 67 62 = nI o)) ∨ (∃ b, b ≤ n ∧ (∀ d M , kc ≤ d → CP 43 T n S M → ∃ M1, px_run (px_mk (kX5_readAnd (px_ex px_tab (d)))) 8 ([some (Value.ref (37)), some (Value.int (nI o)), some (Value.int (1)), some (Value.int (nI m))], [], (hp (M) (J) (R) (38) (43) nL xs (D))) = some (some (Value.int (0)), (hp (M1) (J) (R) (38) (43) nL xs (D))) ∧ CN 43 T n b M1 ∧ CF 43 M M1) ∧ (∀ c e d M , km ≤ d → MP T n S M → M 67 61 = -1 → M 67 62 = nI o → ∃ M1 N, px_run (px_mk (kX12_both (px_ex px_tab (d)))) 4 ([some (Value.ref (67))], [], (hp (M) (J) (R) (c) (e) nL xs (D))) = some (none, (hp (M1) (J) (R) (c) (e) nL xs (D))) ∧ MN N M1 ∧ N + Pb S ≤ Pn S + n ∧ MF M M1 ∧ M1 67 61 = nI b ∧ M1 67 62 = nI o)) := by
  have out : ∀ (m : Nat) (S : PS), PV n S → m ≤ 160 → ¬ Pt S = 12 → (∃ S', PL n S S' ∧ (∀ d M , kc ≤ d → CP 43 T n S M → ∃ M1, px_run (px_mk (kX5_readAnd (px_ex px_tab (d)))) 8 ([some (Value.ref (37)), some (Value.int (nI o)), some (Value.int (1)), some (Value.int (nI m))], [], (hp (M) (J) (R) (38) (43) nL xs (D))) = some (some (Value.int (1)), (hp (M1) (J) (R) (38) (43) nL xs (D))) ∧ CP 43 T n S' M1 ∧ CF 43 M M1) ∧ (∀ c e d M , km ≤ d → MP T n S M → M 67 61 = -1 → M 67 62 = nI o → ∃ M1, px_run (px_mk (kX12_both (px_ex px_tab (d)))) 4 ([some (Value.ref (67))], [], (hp (M) (J) (R) (c) (e) nL xs (D))) = some (none, (hp (M1) (J) (R) (c) (e) nL xs (D))) ∧ MP T n S' M1 ∧ MF M M1 ∧ M1 67 61 = -1 ∧ M1 67 62 = nI o)) := by
    intro m S hV hm ht
    have t61 := hV.2.2.2.1
    refine ⟨S, PL.rf hV, fun d M hd hC => ⟨M, ?_, hC, CF.rf _ _⟩, fun c e d M hd hC h61 h62 => ⟨M, ?_, hC, MF.rf _, h61, h62⟩⟩
    · have h6 : M 37 6 = nI (Pt S) := hC.2.1.2.2.1
      rw [eX5_readAnd_38_8, h6]
      by_cases hm2 : m < 160
      · simp (disch := omega) only [px_bd_s, px_psh_s, px_psh_n, px_vb_s, px_ib_s, px_wb_s, px_bo_s, px_bo_n, Bool.cond_decide, cond_true, cond_false, ite_not, Bool.and_true, if_true, if_false, not_true_eq_false, not_false_eq_true, i10, eq_self, decide_true, decide_false, Bool.or_true, Bool.true_or, Bool.or_false, Bool.false_or, Bool.false_eq_true, za160, if_neg, zs12, ht, not_false_eq_true, eX5_readAnd_38_54]
      · simp (disch := omega) only [px_bd_s, px_psh_s, px_psh_n, px_vb_s, px_ib_s, px_wb_s, px_bo_s, px_bo_n, Bool.cond_decide, cond_true, cond_false, ite_not, Bool.and_true, if_true, if_false, not_true_eq_false, not_false_eq_true, i10, eq_self, decide_true, decide_false, Bool.or_true, Bool.true_or, Bool.or_false, Bool.false_or, Bool.false_eq_true, za160, if_pos, eX5_readAnd_38_54]
    · have h6 : M 67 59 = nI (mtk (Pt S)) := hC.2.2.1.2.2.1
      have w := m_wr_n J R nL xs D c e (d := d) (by omega) h61
      rw [eX12_both_4, w]
      simp (disch := omega) only [px_bd_s, px_psh_s, px_psh_n, px_vb_s, px_ib_s, px_wb_s, px_bo_s, px_bo_n, Bool.cond_decide, cond_true, cond_false, ite_not, Bool.and_true, if_true, if_false, not_true_eq_false, not_false_eq_true, i10, eq_self, decide_true, decide_false, Bool.or_true, Bool.true_or, Bool.or_false, Bool.false_or, Bool.false_eq_true, eX12_both_4_2, h6, mz12, ht, eX12_both_38]
  intro g
  induction g with
  | zero =>
    intro m S hV hm hb
    have v1 := hV.1
    have v2 := hV.2.1
    have v5 := hV.2.2.2.2.1
    exact Or.inl (out m S hV (by omega) (by omega))
  | succ g ih =>
    intro m S hV hm hb
    obtain ⟨v1, v2, v3, t61, v5, v6, v7⟩ := id hV
    have nV := nx_V T hV
    have e0 : Pn (nx T n S) = Pn S := rfl
    by_cases ht : Pt S = 12
    · have hb2 := v5 (by omega)
      have wr : ∀ (d : Nat) (M M1 M2 M3 : Nat → Nat → Int32) (w : Int32), 3 ≤ d → CP 43 T n S M → px_ex px_tab (d) 61 [Value.ref (37)] (hp (M) (J) (R) (38) (43) nL xs (D)) = some (none, (hp (M1) (J) (R) (38) (43) nL xs (D))) → px_ex px_tab (d) 54 [Value.ref (37), Value.int (nI o)] (hp (M1) (J) (R) (38) (43) nL xs (D)) = some (some (Value.int (w)), (hp (M2) (J) (R) (38) (43) nL xs (D))) → px_ex px_tab (d) 40 [Value.ref (43), Value.int (nI (cls 3)), Value.int (0)] (hp (M2) (J) (R) (38) (43) nL xs (D)) = some (none, (hp (M3) (J) (R) (38) (43) nL xs (D))) → px_run (px_mk (kX5_readAnd (px_ex px_tab (d)))) 8 ([some (Value.ref (37)), some (Value.int (nI o)), some (Value.int (1)), some (Value.int (nI m))], [], (hp (M) (J) (R) (38) (43) nL xs (D))) = px_run (px_mk (kX5_readAnd (px_ex px_tab (d)))) 8 ([some (Value.ref (37)), some (Value.int (nI o)), some (Value.int (w)), some (Value.int (nI (m + 1)))], [], (hp (M3) (J) (R) (38) (43) nL xs (D))) := by
        intro d M M1 M2 M3 w hd hC a1 b1 c1
        have c1' : px_ex px_tab (d) 40 [Value.ref (43), Value.int (9), Value.int (0)] (hp (M2) (J) (R) (38) (43) nL xs (D)) = some (none, (hp (M3) (J) (R) (38) (43) nL xs (D))) := c1
        have h6 : M 37 6 = nI (Pt S) := hC.2.1.2.2.1
        rw [eX5_readAnd_38_8, h6]
        simp (disch := omega) only [px_bd_s, px_psh_s, px_psh_n, px_vb_s, px_ib_s, px_wb_s, px_bo_s, px_bo_n, Bool.cond_decide, cond_true, cond_false, ite_not, Bool.and_true, if_true, if_false, not_true_eq_false, not_false_eq_true, i10, eq_self, decide_true, decide_false, Bool.or_true, Bool.true_or, Bool.or_false, Bool.false_or, Bool.false_eq_true, za160, if_neg, zs12, ht, a1, eX5_readAnd_38_8_11, b1, eX5_readAnd_38_8_14, c1', eX5_readAnd_38_8_20, zp1]
      have mr : ∀ (c e d : Nat) (M M1 M2 M3 : Nat → Nat → Int32), 3 ≤ d → MP T n S M → M 67 61 = -1 → px_ex px_tab (d) 211 [Value.ref (67)] (hp (M) (J) (R) (c) (e) nL xs (D)) = some (none, (hp (M1) (J) (R) (c) (e) nL xs (D))) → px_ex px_tab (d) 222 [Value.ref (67)] (hp (M1) (J) (R) (c) (e) nL xs (D)) = some (none, (hp (M2) (J) (R) (c) (e) nL xs (D))) → px_ex px_tab (d) 218 [Value.ref (67), Value.int (nI 3), Value.int (0)] (hp (M2) (J) (R) (c) (e) nL xs (D)) = some (none, (hp (M3) (J) (R) (c) (e) nL xs (D))) → px_run (px_mk (kX12_both (px_ex px_tab (d)))) 4 ([some (Value.ref (67))], [], (hp (M) (J) (R) (c) (e) nL xs (D))) = px_run (px_mk (kX12_both (px_ex px_tab (d)))) 4 ([some (Value.ref (67))], [], (hp (M3) (J) (R) (c) (e) nL xs (D))) := by
        intro c e d M M1 M2 M3 hd hC h61 a1 b1 c1
        have c1' : px_ex px_tab (d) 218 [Value.ref (67), Value.int (3), Value.int (0)] (hp (M2) (J) (R) (c) (e) nL xs (D)) = some (none, (hp (M3) (J) (R) (c) (e) nL xs (D))) := c1
        have h6 : M 67 59 = nI (mtk (Pt S)) := hC.2.2.1.2.2.1
        have w := m_wr_n J R nL xs D c e (d := d) (by omega) h61
        rw [eX12_both_4, w]
        simp (disch := omega) only [px_bd_s, px_psh_s, px_psh_n, px_vb_s, px_ib_s, px_wb_s, px_bo_s, px_bo_n, Bool.cond_decide, cond_true, cond_false, ite_not, Bool.and_true, if_true, if_false, not_true_eq_false, not_false_eq_true, i10, eq_self, decide_true, decide_false, Bool.or_true, Bool.true_or, Bool.or_false, Bool.false_or, Bool.false_eq_true, eX12_both_4_2, h6, mz12, ht, a1, eX12_both_4_9, b1, eX12_both_4_11, c1', eX12_both_4_15]
      rcases hX (nx T n S) nV.1 with ⟨S2, g2, xc, xm⟩ | ⟨b, hb3, xc, xm⟩
      · obtain ⟨l1, l2, l3⟩ := PL_2 (j := 3) hV (by omega) g2 (by decide) (by decide) (by decide)
        have g160 : Pn S2 < 160 := by have := g2.1.1; have := g2.1.2.1; omega
        have l3' : m + 1 ≤ Pb (em S2 3 0) := by
          show m + 1 ≤ Pb S2
          omega
        rcases ih (m + 1) (em S2 3 0) l1.1 (by omega) l3' with ⟨S', i1, ic, im⟩ | ⟨b, hb3, ic, im⟩
        · refine Or.inl ⟨S', l1.tr i1, ?_, ?_⟩
          · intro d M hd hC
            obtain ⟨M1, a1, a2, a3⟩ := c_nx_38 J R nL xs D (d := d) (by omega) v2 v3 hC
            obtain ⟨M2, b1, b2, b3⟩ := xc d M1 hd a2
            obtain ⟨M3, c1, c2, c3⟩ := c_em_38 J R nL xs D (d := d) (by omega) g160 b2 3 0
            obtain ⟨M4, d1, d2, d3⟩ := ic d M3 hd c2
            exact ⟨M4, (wr d M M1 M2 M3 1 (by omega) hC a1 b1 c1).trans d1, d2, ((a3.tr b3).tr c3).tr d3⟩
          · intro c e d M hd hC h61 h62
            obtain ⟨M1, a1, a2, a3, a4, a5⟩ := m_nx J R nL xs D c e (d := d) (by omega) v2 v3 hC
            obtain ⟨M2, b1, b2, b3, b4, b5⟩ := xm c e d M1 hd a2 (a4.trans h61) (a5.trans h62)
            obtain ⟨M3, c1, c2, c3, c4, c5⟩ := m_em J R nL xs D c e (d := d) (by omega) g160 b2 3 0
            obtain ⟨M4, d1, d2, d3, d4, d5⟩ := im c e d M3 hd c2 (c4.trans b4) (c5.trans b5)
            exact ⟨M4, (mr c e d M M1 M2 M3 (by omega) hC h61 a1 b1 c1).trans d1, d2, ((a3.tr b3).tr c3).tr d3, d4, d5⟩
        · refine Or.inr ⟨b, hb3, ?_, ?_⟩
          · intro d M hd hC
            obtain ⟨M1, a1, a2, a3⟩ := c_nx_38 J R nL xs D (d := d) (by omega) v2 v3 hC
            obtain ⟨M2, b1, b2, b3⟩ := xc d M1 hd a2
            obtain ⟨M3, c1, c2, c3⟩ := c_em_38 J R nL xs D (d := d) (by omega) g160 b2 3 0
            obtain ⟨M4, d1, d2, d3⟩ := ic d M3 hd c2
            exact ⟨M4, (wr d M M1 M2 M3 1 (by omega) hC a1 b1 c1).trans d1, d2, ((a3.tr b3).tr c3).tr d3⟩
          · intro c e d M hd hC h61 h62
            obtain ⟨M1, a1, a2, a3, a4, a5⟩ := m_nx J R nL xs D c e (d := d) (by omega) v2 v3 hC
            obtain ⟨M2, b1, b2, b3, b4, b5⟩ := xm c e d M1 hd a2 (a4.trans h61) (a5.trans h62)
            obtain ⟨M3, c1, c2, c3, c4, c5⟩ := m_em J R nL xs D c e (d := d) (by omega) g160 b2 3 0
            obtain ⟨M4, N, d1, d2, d2', d3, d4, d5⟩ := im c e d M3 hd c2 (c4.trans b4) (c5.trans b5)
            have l4 := l1.2.2.2.1
            exact ⟨M4, N, (mr c e d M M1 M2 M3 (by omega) hC h61 a1 b1 c1).trans d1, d2, by omega, ((a3.tr b3).tr c3).tr d3, d4, d5⟩
      · refine Or.inr ⟨b, hb3, ?_, ?_⟩
        · intro d M hd hC
          obtain ⟨M1, a1, a2, a3⟩ := c_nx_38 J R nL xs D (d := d) (by omega) v2 v3 hC
          obtain ⟨M2, b1, b2, b3⟩ := xc d M1 hd a2
          obtain ⟨M3, c1, c2, c3⟩ := c_em_f_38 J R nL xs D (d := d) (by omega) b2 (nI (cls 3)) 0
          refine ⟨M3, (wr d M M1 M2 M3 0 (by omega) hC a1 b1 c1).trans ?_, c2, (a3.tr b3).tr c3⟩
          rw [eX5_readAnd_38_8]
          by_cases hm2 : m + 1 < 160
          · simp (disch := omega) only [px_bd_s, px_psh_s, px_psh_n, px_vb_s, px_ib_s, px_wb_s, px_bo_s, px_bo_n, Bool.cond_decide, cond_true, cond_false, ite_not, Bool.and_true, if_true, if_false, not_true_eq_false, not_false_eq_true, i10, eq_self, decide_true, decide_false, Bool.or_true, Bool.true_or, Bool.or_false, Bool.false_or, Bool.false_eq_true, za160, if_neg, eX5_readAnd_38_54]
          · simp (disch := omega) only [px_bd_s, px_psh_s, px_psh_n, px_vb_s, px_ib_s, px_wb_s, px_bo_s, px_bo_n, Bool.cond_decide, cond_true, cond_false, ite_not, Bool.and_true, if_true, if_false, not_true_eq_false, not_false_eq_true, i10, eq_self, decide_true, decide_false, Bool.or_true, Bool.true_or, Bool.or_false, Bool.false_or, Bool.false_eq_true, za160, if_pos, eX5_readAnd_38_54]
        · intro c e d M hd hC h61 h62
          obtain ⟨M1, a1, a2, a3, a4, a5⟩ := m_nx J R nL xs D c e (d := d) (by omega) v2 v3 hC
          obtain ⟨M2, N, b1, b2, b2', b3, b4, b5⟩ := xm c e d M1 hd a2 (a4.trans h61) (a5.trans h62)
          have nb := nV.2
          rw [e0] at b2'
          obtain ⟨M3, c1, c2, c3, c4, c5⟩ := m_em_f J R nL xs D c e (d := d) (by omega) (show N < 160 by omega) b2 (nI 3) 0
          have w := m_wr_y J R nL xs D c e (d := d) (by omega) (show b ≤ 160 by omega) (c4.trans b4)
          refine ⟨M3, N + 1, (mr c e d M M1 M2 M3 (by omega) hC h61 a1 b1 c1).trans ?_, c2, by omega, (a3.tr b3).tr c3, c4.trans b4, c5.trans b5⟩
          simp only [px_bd_s, px_psh_s, px_psh_n, px_vb_s, px_ib_s, px_wb_s, px_bo_s, px_bo_n, Bool.cond_decide, cond_true, cond_false, ite_not, Bool.and_true, if_true, if_false, not_true_eq_false, not_false_eq_true, i10, eq_self, decide_true, decide_false, Bool.or_true, Bool.true_or, Bool.or_false, Bool.false_or, Bool.false_eq_true, eX12_both_4, w, eX12_both_4_2, eX12_both_38]
    · exact Or.inl (out m S hV (by omega) ht)
theorem p_and_38 {T : Nat → Nat} {n kc km o : Nat} (hn : n ≤ 160) (hkc : 3 ≤ kc) (hkm : 3 ≤ km) (hX : XP J R 38 43 nL xs D T n kc km 54 222 o) : XP J R 38 43 nL xs D T n (kc + 1) (km + 1) 53 221 o := by
  intro S hV
  rcases hX S hV with ⟨S1, g, xc, xm⟩ | ⟨b, hb, xc, xm⟩
  · have cc : ∀ (d : Nat) (M M1 : Nat → Nat → Int32), px_ex px_tab (d) 54 [Value.ref (37), Value.int (nI o)] (hp (M) (J) (R) (38) (43) nL xs (D)) = some (some (Value.int (1)), (hp (M1) (J) (R) (38) (43) nL xs (D))) → px_ex px_tab (d + 1) 53 [Value.ref (37), Value.int (nI o)] (hp (M) (J) (R) (38) (43) nL xs (D)) = px_run (px_mk (kX5_readAnd (px_ex px_tab (d)))) 8 ([some (Value.ref (37)), some (Value.int (nI o)), some (Value.int (1)), some (Value.int (0))], [], (hp (M1) (J) (R) (38) (43) nL xs (D))) := by
      intro d M M1 a1
      rw [xX5_readAnd, eX5_readAnd_38_0, a1]
      simp only [px_bd_s, px_psh_s, px_psh_n, px_vb_s, px_ib_s, px_wb_s, px_bo_s, px_bo_n, Bool.cond_decide, cond_true, cond_false, ite_not, Bool.and_true, if_true, if_false, not_true_eq_false, not_false_eq_true, i10, eq_self, decide_true, decide_false, Bool.or_true, Bool.true_or, Bool.or_false, Bool.false_or, Bool.false_eq_true, eX5_readAnd_38_0_3]
    have mc : ∀ (c e d : Nat) (M M1 : Nat → Nat → Int32), px_ex px_tab (d) 222 [Value.ref (67)] (hp (M) (J) (R) (c) (e) nL xs (D)) = some (none, (hp (M1) (J) (R) (c) (e) nL xs (D))) → px_ex px_tab (d + 1) 221 [Value.ref (67)] (hp (M) (J) (R) (c) (e) nL xs (D)) = px_run (px_mk (kX12_both (px_ex px_tab (d)))) 4 ([some (Value.ref (67))], [], (hp (M1) (J) (R) (c) (e) nL xs (D))) := by
      intro c e d M M1 a1
      rw [xX12_both, eX12_both_0, a1]
      simp only [px_bd_s, px_psh_s, px_psh_n, px_vb_s, px_ib_s, px_wb_s, px_bo_s, px_bo_n, Bool.cond_decide, cond_true, cond_false, ite_not, Bool.and_true, if_true, if_false, not_true_eq_false, not_false_eq_true, i10, eq_self, decide_true, decide_false, Bool.or_true, Bool.true_or, Bool.or_false, Bool.false_or, Bool.false_eq_true, eX12_both_0_2]
    rcases l_and_38 J R nL xs D hn hkc hkm hX 160 0 S1 g.1 (by omega) (Nat.zero_le _) with ⟨S', l, lc, lm⟩ | ⟨b, hb, lc, lm⟩
    · refine Or.inl ⟨S', g.pl l, ?_, ?_⟩
      · intro dc M hd hC
        obtain ⟨d, rfl⟩ : ∃ d', dc = d' + 1 := ⟨dc - 1, by omega⟩
        obtain ⟨M1, a1, a2, a3⟩ := xc d M (by omega) hC
        obtain ⟨M2, b1, b2, b3⟩ := lc d M1 (by omega) a2
        exact ⟨M2, (cc d M M1 a1).trans b1, b2, a3.tr b3⟩
      · intro c e dm M hd hC h61 h62
        obtain ⟨d, rfl⟩ : ∃ d', dm = d' + 1 := ⟨dm - 1, by omega⟩
        obtain ⟨M1, a1, a2, a3, a4, a5⟩ := xm c e d M (by omega) hC h61 h62
        obtain ⟨M2, b1, b2, b3, b4, b5⟩ := lm c e d M1 (by omega) a2 a4 a5
        exact ⟨M2, (mc c e d M M1 a1).trans b1, b2, a3.tr b3, b4, b5⟩
    · refine Or.inr ⟨b, hb, ?_, ?_⟩
      · intro dc M hd hC
        obtain ⟨d, rfl⟩ : ∃ d', dc = d' + 1 := ⟨dc - 1, by omega⟩
        obtain ⟨M1, a1, a2, a3⟩ := xc d M (by omega) hC
        obtain ⟨M2, b1, b2, b3⟩ := lc d M1 (by omega) a2
        exact ⟨M2, (cc d M M1 a1).trans b1, b2, a3.tr b3⟩
      · intro c e dm M hd hC h61 h62
        obtain ⟨d, rfl⟩ : ∃ d', dm = d' + 1 := ⟨dm - 1, by omega⟩
        obtain ⟨M1, a1, a2, a3, a4, a5⟩ := xm c e d M (by omega) hC h61 h62
        obtain ⟨M2, N, b1, b2, b2', b3, b4, b5⟩ := lm c e d M1 (by omega) a2 a4 a5
        have g4 := g.2.2.2.1
        exact ⟨M2, N, (mc c e d M M1 a1).trans b1, b2, by omega, a3.tr b3, b4, b5⟩
  · refine Or.inr ⟨b, hb, ?_, ?_⟩
    · intro dc M hd hC
      obtain ⟨d, rfl⟩ : ∃ d', dc = d' + 1 := ⟨dc - 1, by omega⟩
      obtain ⟨M1, a1, a2, a3⟩ := xc d M (by omega) hC
      refine ⟨M1, ?_, a2, a3⟩
      rw [xX5_readAnd, eX5_readAnd_38_0, a1]
      simp only [px_bd_s, px_psh_s, px_psh_n, px_vb_s, px_ib_s, px_wb_s, px_bo_s, px_bo_n, Bool.cond_decide, cond_true, cond_false, ite_not, Bool.and_true, if_true, if_false, not_true_eq_false, not_false_eq_true, i10, eq_self, decide_true, decide_false, Bool.or_true, Bool.true_or, Bool.or_false, Bool.false_or, Bool.false_eq_true, eX5_readAnd_38_0_3, eX5_readAnd_38_8, show ¬ (160 : Int32) ≤ 0 from by decide, eX5_readAnd_38_54]
    · intro c e dm M hd hC h61 h62
      obtain ⟨d, rfl⟩ : ∃ d', dm = d' + 1 := ⟨dm - 1, by omega⟩
      obtain ⟨M1, N, a1, a2, a2', a3, a4, a5⟩ := xm c e d M (by omega) hC h61 h62
      refine ⟨M1, N, ?_, a2, a2', a3, a4, a5⟩
      have w := m_wr_y J R nL xs D c e (d := d) (by omega) (show b ≤ 160 by omega) a4
      rw [xX12_both, eX12_both_0, a1]
      simp only [px_bd_s, px_psh_s, px_psh_n, px_vb_s, px_ib_s, px_wb_s, px_bo_s, px_bo_n, Bool.cond_decide, cond_true, cond_false, ite_not, Bool.and_true, if_true, if_false, not_true_eq_false, not_false_eq_true, i10, eq_self, decide_true, decide_false, Bool.or_true, Bool.true_or, Bool.or_false, Bool.false_or, Bool.false_eq_true, eX12_both_0_2, eX12_both_4, w, eX12_both_4_2, eX12_both_38]
theorem l_and_43 {T : Nat → Nat} {n kc km o : Nat} (hn : n ≤ 160) (hkc : 3 ≤ kc) (hkm : 3 ≤ km) (hX : XP J R 43 38 nL xs D T n kc km 54 222 o) : ∀ (g m : Nat) (S : PS), PV n S → m + g = 160 → m ≤ Pb S → (∃ S', PL n S S' ∧ (∀ d M , kc ≤ d → CP 38 T n S M → ∃ M1, px_run (px_mk (kX5_readAnd (px_ex px_tab (d)))) 8 ([some (Value.ref (37)), some (Value.int (nI o)), some (Value.int (1)), some (Value.int (nI m))], [], (hp (M) (J) (R) (43) (38) nL xs (D))) = some (some (Value.int (1)), (hp (M1) (J) (R) (43) (38) nL xs (D))) ∧ CP 38 T n S' M1 ∧ CF 38 M M1) ∧ (∀ c e d M , km ≤ d → MP T n S M → M 67 61 = -1 → M 67 62 = nI o → ∃ M1, px_run (px_mk (kX12_both (px_ex px_tab (d)))) 4 ([some (Value.ref (67))], [], (hp (M) (J) (R) (c) (e) nL xs (D))) = some (none, (hp (M1) (J) (R) (c) (e) nL xs (D))) ∧ MP T n S' M1 ∧ MF M M1 ∧ M1 67 61 = -1 ∧ M1 67 62 = nI o)) ∨ (∃ b, b ≤ n ∧ (∀ d M , kc ≤ d → CP 38 T n S M → ∃ M1, px_run (px_mk (kX5_readAnd (px_ex px_tab (d)))) 8 ([some (Value.ref (37)), some (Value.int (nI o)), some (Value.int (1)), some (Value.int (nI m))], [], (hp (M) (J) (R) (43) (38) nL xs (D))) = some (some (Value.int (0)), (hp (M1) (J) (R) (43) (38) nL xs (D))) ∧ CN 38 T n b M1 ∧ CF 38 M M1) ∧ (∀ c e d M , km ≤ d → MP T n S M → M 67 61 = -1 → M 67 62 = nI o → ∃ M1 N, px_run (px_mk (kX12_both (px_ex px_tab (d)))) 4 ([some (Value.ref (67))], [], (hp (M) (J) (R) (c) (e) nL xs (D))) = some (none, (hp (M1) (J) (R) (c) (e) nL xs (D))) ∧ MN N M1 ∧ N + Pb S ≤ Pn S + n ∧ MF M M1 ∧ M1 67 61 = nI b ∧ M1 67 62 = nI o)) := by
  have out : ∀ (m : Nat) (S : PS), PV n S → m ≤ 160 → ¬ Pt S = 12 → (∃ S', PL n S S' ∧ (∀ d M , kc ≤ d → CP 38 T n S M → ∃ M1, px_run (px_mk (kX5_readAnd (px_ex px_tab (d)))) 8 ([some (Value.ref (37)), some (Value.int (nI o)), some (Value.int (1)), some (Value.int (nI m))], [], (hp (M) (J) (R) (43) (38) nL xs (D))) = some (some (Value.int (1)), (hp (M1) (J) (R) (43) (38) nL xs (D))) ∧ CP 38 T n S' M1 ∧ CF 38 M M1) ∧ (∀ c e d M , km ≤ d → MP T n S M → M 67 61 = -1 → M 67 62 = nI o → ∃ M1, px_run (px_mk (kX12_both (px_ex px_tab (d)))) 4 ([some (Value.ref (67))], [], (hp (M) (J) (R) (c) (e) nL xs (D))) = some (none, (hp (M1) (J) (R) (c) (e) nL xs (D))) ∧ MP T n S' M1 ∧ MF M M1 ∧ M1 67 61 = -1 ∧ M1 67 62 = nI o)) := by
    intro m S hV hm ht
    have t61 := hV.2.2.2.1
    refine ⟨S, PL.rf hV, fun d M hd hC => ⟨M, ?_, hC, CF.rf _ _⟩, fun c e d M hd hC h61 h62 => ⟨M, ?_, hC, MF.rf _, h61, h62⟩⟩
    · have h6 : M 37 6 = nI (Pt S) := hC.2.1.2.2.1
      rw [eX5_readAnd_43_8, h6]
      by_cases hm2 : m < 160
      · simp (disch := omega) only [px_bd_s, px_psh_s, px_psh_n, px_vb_s, px_ib_s, px_wb_s, px_bo_s, px_bo_n, Bool.cond_decide, cond_true, cond_false, ite_not, Bool.and_true, if_true, if_false, not_true_eq_false, not_false_eq_true, i10, eq_self, decide_true, decide_false, Bool.or_true, Bool.true_or, Bool.or_false, Bool.false_or, Bool.false_eq_true, za160, if_neg, zs12, ht, not_false_eq_true, eX5_readAnd_43_54]
      · simp (disch := omega) only [px_bd_s, px_psh_s, px_psh_n, px_vb_s, px_ib_s, px_wb_s, px_bo_s, px_bo_n, Bool.cond_decide, cond_true, cond_false, ite_not, Bool.and_true, if_true, if_false, not_true_eq_false, not_false_eq_true, i10, eq_self, decide_true, decide_false, Bool.or_true, Bool.true_or, Bool.or_false, Bool.false_or, Bool.false_eq_true, za160, if_pos, eX5_readAnd_43_54]
    · have h6 : M 67 59 = nI (mtk (Pt S)) := hC.2.2.1.2.2.1
      have w := m_wr_n J R nL xs D c e (d := d) (by omega) h61
      rw [eX12_both_4, w]
      simp (disch := omega) only [px_bd_s, px_psh_s, px_psh_n, px_vb_s, px_ib_s, px_wb_s, px_bo_s, px_bo_n, Bool.cond_decide, cond_true, cond_false, ite_not, Bool.and_true, if_true, if_false, not_true_eq_false, not_false_eq_true, i10, eq_self, decide_true, decide_false, Bool.or_true, Bool.true_or, Bool.or_false, Bool.false_or, Bool.false_eq_true, eX12_both_4_2, h6, mz12, ht, eX12_both_38]
  intro g
  induction g with
  | zero =>
    intro m S hV hm hb
    have v1 := hV.1
    have v2 := hV.2.1
    have v5 := hV.2.2.2.2.1
    exact Or.inl (out m S hV (by omega) (by omega))
  | succ g ih =>
    intro m S hV hm hb
    obtain ⟨v1, v2, v3, t61, v5, v6, v7⟩ := id hV
    have nV := nx_V T hV
    have e0 : Pn (nx T n S) = Pn S := rfl
    by_cases ht : Pt S = 12
    · have hb2 := v5 (by omega)
      have wr : ∀ (d : Nat) (M M1 M2 M3 : Nat → Nat → Int32) (w : Int32), 3 ≤ d → CP 38 T n S M → px_ex px_tab (d) 61 [Value.ref (37)] (hp (M) (J) (R) (43) (38) nL xs (D)) = some (none, (hp (M1) (J) (R) (43) (38) nL xs (D))) → px_ex px_tab (d) 54 [Value.ref (37), Value.int (nI o)] (hp (M1) (J) (R) (43) (38) nL xs (D)) = some (some (Value.int (w)), (hp (M2) (J) (R) (43) (38) nL xs (D))) → px_ex px_tab (d) 40 [Value.ref (38), Value.int (nI (cls 3)), Value.int (0)] (hp (M2) (J) (R) (43) (38) nL xs (D)) = some (none, (hp (M3) (J) (R) (43) (38) nL xs (D))) → px_run (px_mk (kX5_readAnd (px_ex px_tab (d)))) 8 ([some (Value.ref (37)), some (Value.int (nI o)), some (Value.int (1)), some (Value.int (nI m))], [], (hp (M) (J) (R) (43) (38) nL xs (D))) = px_run (px_mk (kX5_readAnd (px_ex px_tab (d)))) 8 ([some (Value.ref (37)), some (Value.int (nI o)), some (Value.int (w)), some (Value.int (nI (m + 1)))], [], (hp (M3) (J) (R) (43) (38) nL xs (D))) := by
        intro d M M1 M2 M3 w hd hC a1 b1 c1
        have c1' : px_ex px_tab (d) 40 [Value.ref (38), Value.int (9), Value.int (0)] (hp (M2) (J) (R) (43) (38) nL xs (D)) = some (none, (hp (M3) (J) (R) (43) (38) nL xs (D))) := c1
        have h6 : M 37 6 = nI (Pt S) := hC.2.1.2.2.1
        rw [eX5_readAnd_43_8, h6]
        simp (disch := omega) only [px_bd_s, px_psh_s, px_psh_n, px_vb_s, px_ib_s, px_wb_s, px_bo_s, px_bo_n, Bool.cond_decide, cond_true, cond_false, ite_not, Bool.and_true, if_true, if_false, not_true_eq_false, not_false_eq_true, i10, eq_self, decide_true, decide_false, Bool.or_true, Bool.true_or, Bool.or_false, Bool.false_or, Bool.false_eq_true, za160, if_neg, zs12, ht, a1, eX5_readAnd_43_8_11, b1, eX5_readAnd_43_8_14, c1', eX5_readAnd_43_8_20, zp1]
      have mr : ∀ (c e d : Nat) (M M1 M2 M3 : Nat → Nat → Int32), 3 ≤ d → MP T n S M → M 67 61 = -1 → px_ex px_tab (d) 211 [Value.ref (67)] (hp (M) (J) (R) (c) (e) nL xs (D)) = some (none, (hp (M1) (J) (R) (c) (e) nL xs (D))) → px_ex px_tab (d) 222 [Value.ref (67)] (hp (M1) (J) (R) (c) (e) nL xs (D)) = some (none, (hp (M2) (J) (R) (c) (e) nL xs (D))) → px_ex px_tab (d) 218 [Value.ref (67), Value.int (nI 3), Value.int (0)] (hp (M2) (J) (R) (c) (e) nL xs (D)) = some (none, (hp (M3) (J) (R) (c) (e) nL xs (D))) → px_run (px_mk (kX12_both (px_ex px_tab (d)))) 4 ([some (Value.ref (67))], [], (hp (M) (J) (R) (c) (e) nL xs (D))) = px_run (px_mk (kX12_both (px_ex px_tab (d)))) 4 ([some (Value.ref (67))], [], (hp (M3) (J) (R) (c) (e) nL xs (D))) := by
        intro c e d M M1 M2 M3 hd hC h61 a1 b1 c1
        have c1' : px_ex px_tab (d) 218 [Value.ref (67), Value.int (3), Value.int (0)] (hp (M2) (J) (R) (c) (e) nL xs (D)) = some (none, (hp (M3) (J) (R) (c) (e) nL xs (D))) := c1
        have h6 : M 67 59 = nI (mtk (Pt S)) := hC.2.2.1.2.2.1
        have w := m_wr_n J R nL xs D c e (d := d) (by omega) h61
        rw [eX12_both_4, w]
        simp (disch := omega) only [px_bd_s, px_psh_s, px_psh_n, px_vb_s, px_ib_s, px_wb_s, px_bo_s, px_bo_n, Bool.cond_decide, cond_true, cond_false, ite_not, Bool.and_true, if_true, if_false, not_true_eq_false, not_false_eq_true, i10, eq_self, decide_true, decide_false, Bool.or_true, Bool.true_or, Bool.or_false, Bool.false_or, Bool.false_eq_true, eX12_both_4_2, h6, mz12, ht, a1, eX12_both_4_9, b1, eX12_both_4_11, c1', eX12_both_4_15]
      rcases hX (nx T n S) nV.1 with ⟨S2, g2, xc, xm⟩ | ⟨b, hb3, xc, xm⟩
      · obtain ⟨l1, l2, l3⟩ := PL_2 (j := 3) hV (by omega) g2 (by decide) (by decide) (by decide)
        have g160 : Pn S2 < 160 := by have := g2.1.1; have := g2.1.2.1; omega
        have l3' : m + 1 ≤ Pb (em S2 3 0) := by
          show m + 1 ≤ Pb S2
          omega
        rcases ih (m + 1) (em S2 3 0) l1.1 (by omega) l3' with ⟨S', i1, ic, im⟩ | ⟨b, hb3, ic, im⟩
        · refine Or.inl ⟨S', l1.tr i1, ?_, ?_⟩
          · intro d M hd hC
            obtain ⟨M1, a1, a2, a3⟩ := c_nx_43 J R nL xs D (d := d) (by omega) v2 v3 hC
            obtain ⟨M2, b1, b2, b3⟩ := xc d M1 hd a2
            obtain ⟨M3, c1, c2, c3⟩ := c_em_43 J R nL xs D (d := d) (by omega) g160 b2 3 0
            obtain ⟨M4, d1, d2, d3⟩ := ic d M3 hd c2
            exact ⟨M4, (wr d M M1 M2 M3 1 (by omega) hC a1 b1 c1).trans d1, d2, ((a3.tr b3).tr c3).tr d3⟩
          · intro c e d M hd hC h61 h62
            obtain ⟨M1, a1, a2, a3, a4, a5⟩ := m_nx J R nL xs D c e (d := d) (by omega) v2 v3 hC
            obtain ⟨M2, b1, b2, b3, b4, b5⟩ := xm c e d M1 hd a2 (a4.trans h61) (a5.trans h62)
            obtain ⟨M3, c1, c2, c3, c4, c5⟩ := m_em J R nL xs D c e (d := d) (by omega) g160 b2 3 0
            obtain ⟨M4, d1, d2, d3, d4, d5⟩ := im c e d M3 hd c2 (c4.trans b4) (c5.trans b5)
            exact ⟨M4, (mr c e d M M1 M2 M3 (by omega) hC h61 a1 b1 c1).trans d1, d2, ((a3.tr b3).tr c3).tr d3, d4, d5⟩
        · refine Or.inr ⟨b, hb3, ?_, ?_⟩
          · intro d M hd hC
            obtain ⟨M1, a1, a2, a3⟩ := c_nx_43 J R nL xs D (d := d) (by omega) v2 v3 hC
            obtain ⟨M2, b1, b2, b3⟩ := xc d M1 hd a2
            obtain ⟨M3, c1, c2, c3⟩ := c_em_43 J R nL xs D (d := d) (by omega) g160 b2 3 0
            obtain ⟨M4, d1, d2, d3⟩ := ic d M3 hd c2
            exact ⟨M4, (wr d M M1 M2 M3 1 (by omega) hC a1 b1 c1).trans d1, d2, ((a3.tr b3).tr c3).tr d3⟩
          · intro c e d M hd hC h61 h62
            obtain ⟨M1, a1, a2, a3, a4, a5⟩ := m_nx J R nL xs D c e (d := d) (by omega) v2 v3 hC
            obtain ⟨M2, b1, b2, b3, b4, b5⟩ := xm c e d M1 hd a2 (a4.trans h61) (a5.trans h62)
            obtain ⟨M3, c1, c2, c3, c4, c5⟩ := m_em J R nL xs D c e (d := d) (by omega) g160 b2 3 0
            obtain ⟨M4, N, d1, d2, d2', d3, d4, d5⟩ := im c e d M3 hd c2 (c4.trans b4) (c5.trans b5)
            have l4 := l1.2.2.2.1
            exact ⟨M4, N, (mr c e d M M1 M2 M3 (by omega) hC h61 a1 b1 c1).trans d1, d2, by omega, ((a3.tr b3).tr c3).tr d3, d4, d5⟩
      · refine Or.inr ⟨b, hb3, ?_, ?_⟩
        · intro d M hd hC
          obtain ⟨M1, a1, a2, a3⟩ := c_nx_43 J R nL xs D (d := d) (by omega) v2 v3 hC
          obtain ⟨M2, b1, b2, b3⟩ := xc d M1 hd a2
          obtain ⟨M3, c1, c2, c3⟩ := c_em_f_43 J R nL xs D (d := d) (by omega) b2 (nI (cls 3)) 0
          refine ⟨M3, (wr d M M1 M2 M3 0 (by omega) hC a1 b1 c1).trans ?_, c2, (a3.tr b3).tr c3⟩
          rw [eX5_readAnd_43_8]
          by_cases hm2 : m + 1 < 160
          · simp (disch := omega) only [px_bd_s, px_psh_s, px_psh_n, px_vb_s, px_ib_s, px_wb_s, px_bo_s, px_bo_n, Bool.cond_decide, cond_true, cond_false, ite_not, Bool.and_true, if_true, if_false, not_true_eq_false, not_false_eq_true, i10, eq_self, decide_true, decide_false, Bool.or_true, Bool.true_or, Bool.or_false, Bool.false_or, Bool.false_eq_true, za160, if_neg, eX5_readAnd_43_54]
          · simp (disch := omega) only [px_bd_s, px_psh_s, px_psh_n, px_vb_s, px_ib_s, px_wb_s, px_bo_s, px_bo_n, Bool.cond_decide, cond_true, cond_false, ite_not, Bool.and_true, if_true, if_false, not_true_eq_false, not_false_eq_true, i10, eq_self, decide_true, decide_false, Bool.or_true, Bool.true_or, Bool.or_false, Bool.false_or, Bool.false_eq_true, za160, if_pos, eX5_readAnd_43_54]
        · intro c e d M hd hC h61 h62
          obtain ⟨M1, a1, a2, a3, a4, a5⟩ := m_nx J R nL xs D c e (d := d) (by omega) v2 v3 hC
          obtain ⟨M2, N, b1, b2, b2', b3, b4, b5⟩ := xm c e d M1 hd a2 (a4.trans h61) (a5.trans h62)
          have nb := nV.2
          rw [e0] at b2'
          obtain ⟨M3, c1, c2, c3, c4, c5⟩ := m_em_f J R nL xs D c e (d := d) (by omega) (show N < 160 by omega) b2 (nI 3) 0
          have w := m_wr_y J R nL xs D c e (d := d) (by omega) (show b ≤ 160 by omega) (c4.trans b4)
          refine ⟨M3, N + 1, (mr c e d M M1 M2 M3 (by omega) hC h61 a1 b1 c1).trans ?_, c2, by omega, (a3.tr b3).tr c3, c4.trans b4, c5.trans b5⟩
          simp only [px_bd_s, px_psh_s, px_psh_n, px_vb_s, px_ib_s, px_wb_s, px_bo_s, px_bo_n, Bool.cond_decide, cond_true, cond_false, ite_not, Bool.and_true, if_true, if_false, not_true_eq_false, not_false_eq_true, i10, eq_self, decide_true, decide_false, Bool.or_true, Bool.true_or, Bool.or_false, Bool.false_or, Bool.false_eq_true, eX12_both_4, w, eX12_both_4_2, eX12_both_38]
    · exact Or.inl (out m S hV (by omega) ht)
theorem p_and_43 {T : Nat → Nat} {n kc km o : Nat} (hn : n ≤ 160) (hkc : 3 ≤ kc) (hkm : 3 ≤ km) (hX : XP J R 43 38 nL xs D T n kc km 54 222 o) : XP J R 43 38 nL xs D T n (kc + 1) (km + 1) 53 221 o := by
  intro S hV
  rcases hX S hV with ⟨S1, g, xc, xm⟩ | ⟨b, hb, xc, xm⟩
  · have cc : ∀ (d : Nat) (M M1 : Nat → Nat → Int32), px_ex px_tab (d) 54 [Value.ref (37), Value.int (nI o)] (hp (M) (J) (R) (43) (38) nL xs (D)) = some (some (Value.int (1)), (hp (M1) (J) (R) (43) (38) nL xs (D))) → px_ex px_tab (d + 1) 53 [Value.ref (37), Value.int (nI o)] (hp (M) (J) (R) (43) (38) nL xs (D)) = px_run (px_mk (kX5_readAnd (px_ex px_tab (d)))) 8 ([some (Value.ref (37)), some (Value.int (nI o)), some (Value.int (1)), some (Value.int (0))], [], (hp (M1) (J) (R) (43) (38) nL xs (D))) := by
      intro d M M1 a1
      rw [xX5_readAnd, eX5_readAnd_43_0, a1]
      simp only [px_bd_s, px_psh_s, px_psh_n, px_vb_s, px_ib_s, px_wb_s, px_bo_s, px_bo_n, Bool.cond_decide, cond_true, cond_false, ite_not, Bool.and_true, if_true, if_false, not_true_eq_false, not_false_eq_true, i10, eq_self, decide_true, decide_false, Bool.or_true, Bool.true_or, Bool.or_false, Bool.false_or, Bool.false_eq_true, eX5_readAnd_43_0_3]
    have mc : ∀ (c e d : Nat) (M M1 : Nat → Nat → Int32), px_ex px_tab (d) 222 [Value.ref (67)] (hp (M) (J) (R) (c) (e) nL xs (D)) = some (none, (hp (M1) (J) (R) (c) (e) nL xs (D))) → px_ex px_tab (d + 1) 221 [Value.ref (67)] (hp (M) (J) (R) (c) (e) nL xs (D)) = px_run (px_mk (kX12_both (px_ex px_tab (d)))) 4 ([some (Value.ref (67))], [], (hp (M1) (J) (R) (c) (e) nL xs (D))) := by
      intro c e d M M1 a1
      rw [xX12_both, eX12_both_0, a1]
      simp only [px_bd_s, px_psh_s, px_psh_n, px_vb_s, px_ib_s, px_wb_s, px_bo_s, px_bo_n, Bool.cond_decide, cond_true, cond_false, ite_not, Bool.and_true, if_true, if_false, not_true_eq_false, not_false_eq_true, i10, eq_self, decide_true, decide_false, Bool.or_true, Bool.true_or, Bool.or_false, Bool.false_or, Bool.false_eq_true, eX12_both_0_2]
    rcases l_and_43 J R nL xs D hn hkc hkm hX 160 0 S1 g.1 (by omega) (Nat.zero_le _) with ⟨S', l, lc, lm⟩ | ⟨b, hb, lc, lm⟩
    · refine Or.inl ⟨S', g.pl l, ?_, ?_⟩
      · intro dc M hd hC
        obtain ⟨d, rfl⟩ : ∃ d', dc = d' + 1 := ⟨dc - 1, by omega⟩
        obtain ⟨M1, a1, a2, a3⟩ := xc d M (by omega) hC
        obtain ⟨M2, b1, b2, b3⟩ := lc d M1 (by omega) a2
        exact ⟨M2, (cc d M M1 a1).trans b1, b2, a3.tr b3⟩
      · intro c e dm M hd hC h61 h62
        obtain ⟨d, rfl⟩ : ∃ d', dm = d' + 1 := ⟨dm - 1, by omega⟩
        obtain ⟨M1, a1, a2, a3, a4, a5⟩ := xm c e d M (by omega) hC h61 h62
        obtain ⟨M2, b1, b2, b3, b4, b5⟩ := lm c e d M1 (by omega) a2 a4 a5
        exact ⟨M2, (mc c e d M M1 a1).trans b1, b2, a3.tr b3, b4, b5⟩
    · refine Or.inr ⟨b, hb, ?_, ?_⟩
      · intro dc M hd hC
        obtain ⟨d, rfl⟩ : ∃ d', dc = d' + 1 := ⟨dc - 1, by omega⟩
        obtain ⟨M1, a1, a2, a3⟩ := xc d M (by omega) hC
        obtain ⟨M2, b1, b2, b3⟩ := lc d M1 (by omega) a2
        exact ⟨M2, (cc d M M1 a1).trans b1, b2, a3.tr b3⟩
      · intro c e dm M hd hC h61 h62
        obtain ⟨d, rfl⟩ : ∃ d', dm = d' + 1 := ⟨dm - 1, by omega⟩
        obtain ⟨M1, a1, a2, a3, a4, a5⟩ := xm c e d M (by omega) hC h61 h62
        obtain ⟨M2, N, b1, b2, b2', b3, b4, b5⟩ := lm c e d M1 (by omega) a2 a4 a5
        have g4 := g.2.2.2.1
        exact ⟨M2, N, (mc c e d M M1 a1).trans b1, b2, by omega, a3.tr b3, b4, b5⟩
  · refine Or.inr ⟨b, hb, ?_, ?_⟩
    · intro dc M hd hC
      obtain ⟨d, rfl⟩ : ∃ d', dc = d' + 1 := ⟨dc - 1, by omega⟩
      obtain ⟨M1, a1, a2, a3⟩ := xc d M (by omega) hC
      refine ⟨M1, ?_, a2, a3⟩
      rw [xX5_readAnd, eX5_readAnd_43_0, a1]
      simp only [px_bd_s, px_psh_s, px_psh_n, px_vb_s, px_ib_s, px_wb_s, px_bo_s, px_bo_n, Bool.cond_decide, cond_true, cond_false, ite_not, Bool.and_true, if_true, if_false, not_true_eq_false, not_false_eq_true, i10, eq_self, decide_true, decide_false, Bool.or_true, Bool.true_or, Bool.or_false, Bool.false_or, Bool.false_eq_true, eX5_readAnd_43_0_3, eX5_readAnd_43_8, show ¬ (160 : Int32) ≤ 0 from by decide, eX5_readAnd_43_54]
    · intro c e dm M hd hC h61 h62
      obtain ⟨d, rfl⟩ : ∃ d', dm = d' + 1 := ⟨dm - 1, by omega⟩
      obtain ⟨M1, N, a1, a2, a2', a3, a4, a5⟩ := xm c e d M (by omega) hC h61 h62
      refine ⟨M1, N, ?_, a2, a2', a3, a4, a5⟩
      have w := m_wr_y J R nL xs D c e (d := d) (by omega) (show b ≤ 160 by omega) a4
      rw [xX12_both, eX12_both_0, a1]
      simp only [px_bd_s, px_psh_s, px_psh_n, px_vb_s, px_ib_s, px_wb_s, px_bo_s, px_bo_n, Bool.cond_decide, cond_true, cond_false, ite_not, Bool.and_true, if_true, if_false, not_true_eq_false, not_false_eq_true, i10, eq_self, decide_true, decide_false, Bool.or_true, Bool.true_or, Bool.or_false, Bool.false_or, Bool.false_eq_true, eX12_both_0_2, eX12_both_4, w, eX12_both_4_2, eX12_both_38]
theorem l_or_38 {T : Nat → Nat} {n kc km o : Nat} (hn : n ≤ 160) (hkc : 3 ≤ kc) (hkm : 3 ≤ km) (hX : XP J R 38 43 nL xs D T n kc km 53 221 o) : ∀ (g m : Nat) (S : PS), PV n S → m + g = 160 → m ≤ Pb S → (∃ S', PL n S S' ∧ (∀ d M , kc ≤ d → CP 43 T n S M → ∃ M1, px_run (px_mk (kX5_readOr (px_ex px_tab (d)))) 8 ([some (Value.ref (37)), some (Value.int (nI o)), some (Value.int (1)), some (Value.int (nI m))], [], (hp (M) (J) (R) (38) (43) nL xs (D))) = some (some (Value.int (1)), (hp (M1) (J) (R) (38) (43) nL xs (D))) ∧ CP 43 T n S' M1 ∧ CF 43 M M1) ∧ (∀ c e d M , km ≤ d → MP T n S M → M 67 61 = -1 → M 67 62 = nI o → ∃ M1, px_run (px_mk (kX12_either (px_ex px_tab (d)))) 4 ([some (Value.ref (67))], [], (hp (M) (J) (R) (c) (e) nL xs (D))) = some (none, (hp (M1) (J) (R) (c) (e) nL xs (D))) ∧ MP T n S' M1 ∧ MF M M1 ∧ M1 67 61 = -1 ∧ M1 67 62 = nI o)) ∨ (∃ b, b ≤ n ∧ (∀ d M , kc ≤ d → CP 43 T n S M → ∃ M1, px_run (px_mk (kX5_readOr (px_ex px_tab (d)))) 8 ([some (Value.ref (37)), some (Value.int (nI o)), some (Value.int (1)), some (Value.int (nI m))], [], (hp (M) (J) (R) (38) (43) nL xs (D))) = some (some (Value.int (0)), (hp (M1) (J) (R) (38) (43) nL xs (D))) ∧ CN 43 T n b M1 ∧ CF 43 M M1) ∧ (∀ c e d M , km ≤ d → MP T n S M → M 67 61 = -1 → M 67 62 = nI o → ∃ M1 N, px_run (px_mk (kX12_either (px_ex px_tab (d)))) 4 ([some (Value.ref (67))], [], (hp (M) (J) (R) (c) (e) nL xs (D))) = some (none, (hp (M1) (J) (R) (c) (e) nL xs (D))) ∧ MN N M1 ∧ N + Pb S ≤ Pn S + n ∧ MF M M1 ∧ M1 67 61 = nI b ∧ M1 67 62 = nI o)) := by
  have out : ∀ (m : Nat) (S : PS), PV n S → m ≤ 160 → ¬ Pt S = 11 → (∃ S', PL n S S' ∧ (∀ d M , kc ≤ d → CP 43 T n S M → ∃ M1, px_run (px_mk (kX5_readOr (px_ex px_tab (d)))) 8 ([some (Value.ref (37)), some (Value.int (nI o)), some (Value.int (1)), some (Value.int (nI m))], [], (hp (M) (J) (R) (38) (43) nL xs (D))) = some (some (Value.int (1)), (hp (M1) (J) (R) (38) (43) nL xs (D))) ∧ CP 43 T n S' M1 ∧ CF 43 M M1) ∧ (∀ c e d M , km ≤ d → MP T n S M → M 67 61 = -1 → M 67 62 = nI o → ∃ M1, px_run (px_mk (kX12_either (px_ex px_tab (d)))) 4 ([some (Value.ref (67))], [], (hp (M) (J) (R) (c) (e) nL xs (D))) = some (none, (hp (M1) (J) (R) (c) (e) nL xs (D))) ∧ MP T n S' M1 ∧ MF M M1 ∧ M1 67 61 = -1 ∧ M1 67 62 = nI o)) := by
    intro m S hV hm ht
    have t61 := hV.2.2.2.1
    refine ⟨S, PL.rf hV, fun d M hd hC => ⟨M, ?_, hC, CF.rf _ _⟩, fun c e d M hd hC h61 h62 => ⟨M, ?_, hC, MF.rf _, h61, h62⟩⟩
    · have h6 : M 37 6 = nI (Pt S) := hC.2.1.2.2.1
      rw [eX5_readOr_38_8, h6]
      by_cases hm2 : m < 160
      · simp (disch := omega) only [px_bd_s, px_psh_s, px_psh_n, px_vb_s, px_ib_s, px_wb_s, px_bo_s, px_bo_n, Bool.cond_decide, cond_true, cond_false, ite_not, Bool.and_true, if_true, if_false, not_true_eq_false, not_false_eq_true, i10, eq_self, decide_true, decide_false, Bool.or_true, Bool.true_or, Bool.or_false, Bool.false_or, Bool.false_eq_true, za160, if_neg, zs11, ht, not_false_eq_true, eX5_readOr_38_54]
      · simp (disch := omega) only [px_bd_s, px_psh_s, px_psh_n, px_vb_s, px_ib_s, px_wb_s, px_bo_s, px_bo_n, Bool.cond_decide, cond_true, cond_false, ite_not, Bool.and_true, if_true, if_false, not_true_eq_false, not_false_eq_true, i10, eq_self, decide_true, decide_false, Bool.or_true, Bool.true_or, Bool.or_false, Bool.false_or, Bool.false_eq_true, za160, if_pos, eX5_readOr_38_54]
    · have h6 : M 67 59 = nI (mtk (Pt S)) := hC.2.2.1.2.2.1
      have w := m_wr_n J R nL xs D c e (d := d) (by omega) h61
      rw [eX12_either_4, w]
      simp (disch := omega) only [px_bd_s, px_psh_s, px_psh_n, px_vb_s, px_ib_s, px_wb_s, px_bo_s, px_bo_n, Bool.cond_decide, cond_true, cond_false, ite_not, Bool.and_true, if_true, if_false, not_true_eq_false, not_false_eq_true, i10, eq_self, decide_true, decide_false, Bool.or_true, Bool.true_or, Bool.or_false, Bool.false_or, Bool.false_eq_true, eX12_either_4_2, h6, mz11, ht, eX12_either_38]
  intro g
  induction g with
  | zero =>
    intro m S hV hm hb
    have v1 := hV.1
    have v2 := hV.2.1
    have v5 := hV.2.2.2.2.1
    exact Or.inl (out m S hV (by omega) (by omega))
  | succ g ih =>
    intro m S hV hm hb
    obtain ⟨v1, v2, v3, t61, v5, v6, v7⟩ := id hV
    have nV := nx_V T hV
    have e0 : Pn (nx T n S) = Pn S := rfl
    by_cases ht : Pt S = 11
    · have hb2 := v5 (by omega)
      have wr : ∀ (d : Nat) (M M1 M2 M3 : Nat → Nat → Int32) (w : Int32), 3 ≤ d → CP 43 T n S M → px_ex px_tab (d) 61 [Value.ref (37)] (hp (M) (J) (R) (38) (43) nL xs (D)) = some (none, (hp (M1) (J) (R) (38) (43) nL xs (D))) → px_ex px_tab (d) 53 [Value.ref (37), Value.int (nI o)] (hp (M1) (J) (R) (38) (43) nL xs (D)) = some (some (Value.int (w)), (hp (M2) (J) (R) (38) (43) nL xs (D))) → px_ex px_tab (d) 40 [Value.ref (43), Value.int (nI (cls 2)), Value.int (0)] (hp (M2) (J) (R) (38) (43) nL xs (D)) = some (none, (hp (M3) (J) (R) (38) (43) nL xs (D))) → px_run (px_mk (kX5_readOr (px_ex px_tab (d)))) 8 ([some (Value.ref (37)), some (Value.int (nI o)), some (Value.int (1)), some (Value.int (nI m))], [], (hp (M) (J) (R) (38) (43) nL xs (D))) = px_run (px_mk (kX5_readOr (px_ex px_tab (d)))) 8 ([some (Value.ref (37)), some (Value.int (nI o)), some (Value.int (w)), some (Value.int (nI (m + 1)))], [], (hp (M3) (J) (R) (38) (43) nL xs (D))) := by
        intro d M M1 M2 M3 w hd hC a1 b1 c1
        have c1' : px_ex px_tab (d) 40 [Value.ref (43), Value.int (10), Value.int (0)] (hp (M2) (J) (R) (38) (43) nL xs (D)) = some (none, (hp (M3) (J) (R) (38) (43) nL xs (D))) := c1
        have h6 : M 37 6 = nI (Pt S) := hC.2.1.2.2.1
        rw [eX5_readOr_38_8, h6]
        simp (disch := omega) only [px_bd_s, px_psh_s, px_psh_n, px_vb_s, px_ib_s, px_wb_s, px_bo_s, px_bo_n, Bool.cond_decide, cond_true, cond_false, ite_not, Bool.and_true, if_true, if_false, not_true_eq_false, not_false_eq_true, i10, eq_self, decide_true, decide_false, Bool.or_true, Bool.true_or, Bool.or_false, Bool.false_or, Bool.false_eq_true, za160, if_neg, zs11, ht, a1, eX5_readOr_38_8_11, b1, eX5_readOr_38_8_14, c1', eX5_readOr_38_8_20, zp1]
      have mr : ∀ (c e d : Nat) (M M1 M2 M3 : Nat → Nat → Int32), 3 ≤ d → MP T n S M → M 67 61 = -1 → px_ex px_tab (d) 211 [Value.ref (67)] (hp (M) (J) (R) (c) (e) nL xs (D)) = some (none, (hp (M1) (J) (R) (c) (e) nL xs (D))) → px_ex px_tab (d) 221 [Value.ref (67)] (hp (M1) (J) (R) (c) (e) nL xs (D)) = some (none, (hp (M2) (J) (R) (c) (e) nL xs (D))) → px_ex px_tab (d) 218 [Value.ref (67), Value.int (nI 2), Value.int (0)] (hp (M2) (J) (R) (c) (e) nL xs (D)) = some (none, (hp (M3) (J) (R) (c) (e) nL xs (D))) → px_run (px_mk (kX12_either (px_ex px_tab (d)))) 4 ([some (Value.ref (67))], [], (hp (M) (J) (R) (c) (e) nL xs (D))) = px_run (px_mk (kX12_either (px_ex px_tab (d)))) 4 ([some (Value.ref (67))], [], (hp (M3) (J) (R) (c) (e) nL xs (D))) := by
        intro c e d M M1 M2 M3 hd hC h61 a1 b1 c1
        have c1' : px_ex px_tab (d) 218 [Value.ref (67), Value.int (2), Value.int (0)] (hp (M2) (J) (R) (c) (e) nL xs (D)) = some (none, (hp (M3) (J) (R) (c) (e) nL xs (D))) := c1
        have h6 : M 67 59 = nI (mtk (Pt S)) := hC.2.2.1.2.2.1
        have w := m_wr_n J R nL xs D c e (d := d) (by omega) h61
        rw [eX12_either_4, w]
        simp (disch := omega) only [px_bd_s, px_psh_s, px_psh_n, px_vb_s, px_ib_s, px_wb_s, px_bo_s, px_bo_n, Bool.cond_decide, cond_true, cond_false, ite_not, Bool.and_true, if_true, if_false, not_true_eq_false, not_false_eq_true, i10, eq_self, decide_true, decide_false, Bool.or_true, Bool.true_or, Bool.or_false, Bool.false_or, Bool.false_eq_true, eX12_either_4_2, h6, mz11, ht, a1, eX12_either_4_9, b1, eX12_either_4_11, c1', eX12_either_4_15]
      rcases hX (nx T n S) nV.1 with ⟨S2, g2, xc, xm⟩ | ⟨b, hb3, xc, xm⟩
      · obtain ⟨l1, l2, l3⟩ := PL_2 (j := 2) hV (by omega) g2 (by decide) (by decide) (by decide)
        have g160 : Pn S2 < 160 := by have := g2.1.1; have := g2.1.2.1; omega
        have l3' : m + 1 ≤ Pb (em S2 2 0) := by
          show m + 1 ≤ Pb S2
          omega
        rcases ih (m + 1) (em S2 2 0) l1.1 (by omega) l3' with ⟨S', i1, ic, im⟩ | ⟨b, hb3, ic, im⟩
        · refine Or.inl ⟨S', l1.tr i1, ?_, ?_⟩
          · intro d M hd hC
            obtain ⟨M1, a1, a2, a3⟩ := c_nx_38 J R nL xs D (d := d) (by omega) v2 v3 hC
            obtain ⟨M2, b1, b2, b3⟩ := xc d M1 hd a2
            obtain ⟨M3, c1, c2, c3⟩ := c_em_38 J R nL xs D (d := d) (by omega) g160 b2 2 0
            obtain ⟨M4, d1, d2, d3⟩ := ic d M3 hd c2
            exact ⟨M4, (wr d M M1 M2 M3 1 (by omega) hC a1 b1 c1).trans d1, d2, ((a3.tr b3).tr c3).tr d3⟩
          · intro c e d M hd hC h61 h62
            obtain ⟨M1, a1, a2, a3, a4, a5⟩ := m_nx J R nL xs D c e (d := d) (by omega) v2 v3 hC
            obtain ⟨M2, b1, b2, b3, b4, b5⟩ := xm c e d M1 hd a2 (a4.trans h61) (a5.trans h62)
            obtain ⟨M3, c1, c2, c3, c4, c5⟩ := m_em J R nL xs D c e (d := d) (by omega) g160 b2 2 0
            obtain ⟨M4, d1, d2, d3, d4, d5⟩ := im c e d M3 hd c2 (c4.trans b4) (c5.trans b5)
            exact ⟨M4, (mr c e d M M1 M2 M3 (by omega) hC h61 a1 b1 c1).trans d1, d2, ((a3.tr b3).tr c3).tr d3, d4, d5⟩
        · refine Or.inr ⟨b, hb3, ?_, ?_⟩
          · intro d M hd hC
            obtain ⟨M1, a1, a2, a3⟩ := c_nx_38 J R nL xs D (d := d) (by omega) v2 v3 hC
            obtain ⟨M2, b1, b2, b3⟩ := xc d M1 hd a2
            obtain ⟨M3, c1, c2, c3⟩ := c_em_38 J R nL xs D (d := d) (by omega) g160 b2 2 0
            obtain ⟨M4, d1, d2, d3⟩ := ic d M3 hd c2
            exact ⟨M4, (wr d M M1 M2 M3 1 (by omega) hC a1 b1 c1).trans d1, d2, ((a3.tr b3).tr c3).tr d3⟩
          · intro c e d M hd hC h61 h62
            obtain ⟨M1, a1, a2, a3, a4, a5⟩ := m_nx J R nL xs D c e (d := d) (by omega) v2 v3 hC
            obtain ⟨M2, b1, b2, b3, b4, b5⟩ := xm c e d M1 hd a2 (a4.trans h61) (a5.trans h62)
            obtain ⟨M3, c1, c2, c3, c4, c5⟩ := m_em J R nL xs D c e (d := d) (by omega) g160 b2 2 0
            obtain ⟨M4, N, d1, d2, d2', d3, d4, d5⟩ := im c e d M3 hd c2 (c4.trans b4) (c5.trans b5)
            have l4 := l1.2.2.2.1
            exact ⟨M4, N, (mr c e d M M1 M2 M3 (by omega) hC h61 a1 b1 c1).trans d1, d2, by omega, ((a3.tr b3).tr c3).tr d3, d4, d5⟩
      · refine Or.inr ⟨b, hb3, ?_, ?_⟩
        · intro d M hd hC
          obtain ⟨M1, a1, a2, a3⟩ := c_nx_38 J R nL xs D (d := d) (by omega) v2 v3 hC
          obtain ⟨M2, b1, b2, b3⟩ := xc d M1 hd a2
          obtain ⟨M3, c1, c2, c3⟩ := c_em_f_38 J R nL xs D (d := d) (by omega) b2 (nI (cls 2)) 0
          refine ⟨M3, (wr d M M1 M2 M3 0 (by omega) hC a1 b1 c1).trans ?_, c2, (a3.tr b3).tr c3⟩
          rw [eX5_readOr_38_8]
          by_cases hm2 : m + 1 < 160
          · simp (disch := omega) only [px_bd_s, px_psh_s, px_psh_n, px_vb_s, px_ib_s, px_wb_s, px_bo_s, px_bo_n, Bool.cond_decide, cond_true, cond_false, ite_not, Bool.and_true, if_true, if_false, not_true_eq_false, not_false_eq_true, i10, eq_self, decide_true, decide_false, Bool.or_true, Bool.true_or, Bool.or_false, Bool.false_or, Bool.false_eq_true, za160, if_neg, eX5_readOr_38_54]
          · simp (disch := omega) only [px_bd_s, px_psh_s, px_psh_n, px_vb_s, px_ib_s, px_wb_s, px_bo_s, px_bo_n, Bool.cond_decide, cond_true, cond_false, ite_not, Bool.and_true, if_true, if_false, not_true_eq_false, not_false_eq_true, i10, eq_self, decide_true, decide_false, Bool.or_true, Bool.true_or, Bool.or_false, Bool.false_or, Bool.false_eq_true, za160, if_pos, eX5_readOr_38_54]
        · intro c e d M hd hC h61 h62
          obtain ⟨M1, a1, a2, a3, a4, a5⟩ := m_nx J R nL xs D c e (d := d) (by omega) v2 v3 hC
          obtain ⟨M2, N, b1, b2, b2', b3, b4, b5⟩ := xm c e d M1 hd a2 (a4.trans h61) (a5.trans h62)
          have nb := nV.2
          rw [e0] at b2'
          obtain ⟨M3, c1, c2, c3, c4, c5⟩ := m_em_f J R nL xs D c e (d := d) (by omega) (show N < 160 by omega) b2 (nI 2) 0
          have w := m_wr_y J R nL xs D c e (d := d) (by omega) (show b ≤ 160 by omega) (c4.trans b4)
          refine ⟨M3, N + 1, (mr c e d M M1 M2 M3 (by omega) hC h61 a1 b1 c1).trans ?_, c2, by omega, (a3.tr b3).tr c3, c4.trans b4, c5.trans b5⟩
          simp only [px_bd_s, px_psh_s, px_psh_n, px_vb_s, px_ib_s, px_wb_s, px_bo_s, px_bo_n, Bool.cond_decide, cond_true, cond_false, ite_not, Bool.and_true, if_true, if_false, not_true_eq_false, not_false_eq_true, i10, eq_self, decide_true, decide_false, Bool.or_true, Bool.true_or, Bool.or_false, Bool.false_or, Bool.false_eq_true, eX12_either_4, w, eX12_either_4_2, eX12_either_38]
    · exact Or.inl (out m S hV (by omega) ht)
theorem p_or_38 {T : Nat → Nat} {n kc km o : Nat} (hn : n ≤ 160) (hkc : 3 ≤ kc) (hkm : 3 ≤ km) (hX : XP J R 38 43 nL xs D T n kc km 53 221 o) : XP J R 38 43 nL xs D T n (kc + 1) (km + 1) 52 220 o := by
  intro S hV
  rcases hX S hV with ⟨S1, g, xc, xm⟩ | ⟨b, hb, xc, xm⟩
  · have cc : ∀ (d : Nat) (M M1 : Nat → Nat → Int32), px_ex px_tab (d) 53 [Value.ref (37), Value.int (nI o)] (hp (M) (J) (R) (38) (43) nL xs (D)) = some (some (Value.int (1)), (hp (M1) (J) (R) (38) (43) nL xs (D))) → px_ex px_tab (d + 1) 52 [Value.ref (37), Value.int (nI o)] (hp (M) (J) (R) (38) (43) nL xs (D)) = px_run (px_mk (kX5_readOr (px_ex px_tab (d)))) 8 ([some (Value.ref (37)), some (Value.int (nI o)), some (Value.int (1)), some (Value.int (0))], [], (hp (M1) (J) (R) (38) (43) nL xs (D))) := by
      intro d M M1 a1
      rw [xX5_readOr, eX5_readOr_38_0, a1]
      simp only [px_bd_s, px_psh_s, px_psh_n, px_vb_s, px_ib_s, px_wb_s, px_bo_s, px_bo_n, Bool.cond_decide, cond_true, cond_false, ite_not, Bool.and_true, if_true, if_false, not_true_eq_false, not_false_eq_true, i10, eq_self, decide_true, decide_false, Bool.or_true, Bool.true_or, Bool.or_false, Bool.false_or, Bool.false_eq_true, eX5_readOr_38_0_3]
    have mc : ∀ (c e d : Nat) (M M1 : Nat → Nat → Int32), px_ex px_tab (d) 221 [Value.ref (67)] (hp (M) (J) (R) (c) (e) nL xs (D)) = some (none, (hp (M1) (J) (R) (c) (e) nL xs (D))) → px_ex px_tab (d + 1) 220 [Value.ref (67)] (hp (M) (J) (R) (c) (e) nL xs (D)) = px_run (px_mk (kX12_either (px_ex px_tab (d)))) 4 ([some (Value.ref (67))], [], (hp (M1) (J) (R) (c) (e) nL xs (D))) := by
      intro c e d M M1 a1
      rw [xX12_either, eX12_either_0, a1]
      simp only [px_bd_s, px_psh_s, px_psh_n, px_vb_s, px_ib_s, px_wb_s, px_bo_s, px_bo_n, Bool.cond_decide, cond_true, cond_false, ite_not, Bool.and_true, if_true, if_false, not_true_eq_false, not_false_eq_true, i10, eq_self, decide_true, decide_false, Bool.or_true, Bool.true_or, Bool.or_false, Bool.false_or, Bool.false_eq_true, eX12_either_0_2]
    rcases l_or_38 J R nL xs D hn hkc hkm hX 160 0 S1 g.1 (by omega) (Nat.zero_le _) with ⟨S', l, lc, lm⟩ | ⟨b, hb, lc, lm⟩
    · refine Or.inl ⟨S', g.pl l, ?_, ?_⟩
      · intro dc M hd hC
        obtain ⟨d, rfl⟩ : ∃ d', dc = d' + 1 := ⟨dc - 1, by omega⟩
        obtain ⟨M1, a1, a2, a3⟩ := xc d M (by omega) hC
        obtain ⟨M2, b1, b2, b3⟩ := lc d M1 (by omega) a2
        exact ⟨M2, (cc d M M1 a1).trans b1, b2, a3.tr b3⟩
      · intro c e dm M hd hC h61 h62
        obtain ⟨d, rfl⟩ : ∃ d', dm = d' + 1 := ⟨dm - 1, by omega⟩
        obtain ⟨M1, a1, a2, a3, a4, a5⟩ := xm c e d M (by omega) hC h61 h62
        obtain ⟨M2, b1, b2, b3, b4, b5⟩ := lm c e d M1 (by omega) a2 a4 a5
        exact ⟨M2, (mc c e d M M1 a1).trans b1, b2, a3.tr b3, b4, b5⟩
    · refine Or.inr ⟨b, hb, ?_, ?_⟩
      · intro dc M hd hC
        obtain ⟨d, rfl⟩ : ∃ d', dc = d' + 1 := ⟨dc - 1, by omega⟩
        obtain ⟨M1, a1, a2, a3⟩ := xc d M (by omega) hC
        obtain ⟨M2, b1, b2, b3⟩ := lc d M1 (by omega) a2
        exact ⟨M2, (cc d M M1 a1).trans b1, b2, a3.tr b3⟩
      · intro c e dm M hd hC h61 h62
        obtain ⟨d, rfl⟩ : ∃ d', dm = d' + 1 := ⟨dm - 1, by omega⟩
        obtain ⟨M1, a1, a2, a3, a4, a5⟩ := xm c e d M (by omega) hC h61 h62
        obtain ⟨M2, N, b1, b2, b2', b3, b4, b5⟩ := lm c e d M1 (by omega) a2 a4 a5
        have g4 := g.2.2.2.1
        exact ⟨M2, N, (mc c e d M M1 a1).trans b1, b2, by omega, a3.tr b3, b4, b5⟩
  · refine Or.inr ⟨b, hb, ?_, ?_⟩
    · intro dc M hd hC
      obtain ⟨d, rfl⟩ : ∃ d', dc = d' + 1 := ⟨dc - 1, by omega⟩
      obtain ⟨M1, a1, a2, a3⟩ := xc d M (by omega) hC
      refine ⟨M1, ?_, a2, a3⟩
      rw [xX5_readOr, eX5_readOr_38_0, a1]
      simp only [px_bd_s, px_psh_s, px_psh_n, px_vb_s, px_ib_s, px_wb_s, px_bo_s, px_bo_n, Bool.cond_decide, cond_true, cond_false, ite_not, Bool.and_true, if_true, if_false, not_true_eq_false, not_false_eq_true, i10, eq_self, decide_true, decide_false, Bool.or_true, Bool.true_or, Bool.or_false, Bool.false_or, Bool.false_eq_true, eX5_readOr_38_0_3, eX5_readOr_38_8, show ¬ (160 : Int32) ≤ 0 from by decide, eX5_readOr_38_54]
    · intro c e dm M hd hC h61 h62
      obtain ⟨d, rfl⟩ : ∃ d', dm = d' + 1 := ⟨dm - 1, by omega⟩
      obtain ⟨M1, N, a1, a2, a2', a3, a4, a5⟩ := xm c e d M (by omega) hC h61 h62
      refine ⟨M1, N, ?_, a2, a2', a3, a4, a5⟩
      have w := m_wr_y J R nL xs D c e (d := d) (by omega) (show b ≤ 160 by omega) a4
      rw [xX12_either, eX12_either_0, a1]
      simp only [px_bd_s, px_psh_s, px_psh_n, px_vb_s, px_ib_s, px_wb_s, px_bo_s, px_bo_n, Bool.cond_decide, cond_true, cond_false, ite_not, Bool.and_true, if_true, if_false, not_true_eq_false, not_false_eq_true, i10, eq_self, decide_true, decide_false, Bool.or_true, Bool.true_or, Bool.or_false, Bool.false_or, Bool.false_eq_true, eX12_either_0_2, eX12_either_4, w, eX12_either_4_2, eX12_either_38]
theorem l_or_43 {T : Nat → Nat} {n kc km o : Nat} (hn : n ≤ 160) (hkc : 3 ≤ kc) (hkm : 3 ≤ km) (hX : XP J R 43 38 nL xs D T n kc km 53 221 o) : ∀ (g m : Nat) (S : PS), PV n S → m + g = 160 → m ≤ Pb S → (∃ S', PL n S S' ∧ (∀ d M , kc ≤ d → CP 38 T n S M → ∃ M1, px_run (px_mk (kX5_readOr (px_ex px_tab (d)))) 8 ([some (Value.ref (37)), some (Value.int (nI o)), some (Value.int (1)), some (Value.int (nI m))], [], (hp (M) (J) (R) (43) (38) nL xs (D))) = some (some (Value.int (1)), (hp (M1) (J) (R) (43) (38) nL xs (D))) ∧ CP 38 T n S' M1 ∧ CF 38 M M1) ∧ (∀ c e d M , km ≤ d → MP T n S M → M 67 61 = -1 → M 67 62 = nI o → ∃ M1, px_run (px_mk (kX12_either (px_ex px_tab (d)))) 4 ([some (Value.ref (67))], [], (hp (M) (J) (R) (c) (e) nL xs (D))) = some (none, (hp (M1) (J) (R) (c) (e) nL xs (D))) ∧ MP T n S' M1 ∧ MF M M1 ∧ M1 67 61 = -1 ∧ M1 67 62 = nI o)) ∨ (∃ b, b ≤ n ∧ (∀ d M , kc ≤ d → CP 38 T n S M → ∃ M1, px_run (px_mk (kX5_readOr (px_ex px_tab (d)))) 8 ([some (Value.ref (37)), some (Value.int (nI o)), some (Value.int (1)), some (Value.int (nI m))], [], (hp (M) (J) (R) (43) (38) nL xs (D))) = some (some (Value.int (0)), (hp (M1) (J) (R) (43) (38) nL xs (D))) ∧ CN 38 T n b M1 ∧ CF 38 M M1) ∧ (∀ c e d M , km ≤ d → MP T n S M → M 67 61 = -1 → M 67 62 = nI o → ∃ M1 N, px_run (px_mk (kX12_either (px_ex px_tab (d)))) 4 ([some (Value.ref (67))], [], (hp (M) (J) (R) (c) (e) nL xs (D))) = some (none, (hp (M1) (J) (R) (c) (e) nL xs (D))) ∧ MN N M1 ∧ N + Pb S ≤ Pn S + n ∧ MF M M1 ∧ M1 67 61 = nI b ∧ M1 67 62 = nI o)) := by
  have out : ∀ (m : Nat) (S : PS), PV n S → m ≤ 160 → ¬ Pt S = 11 → (∃ S', PL n S S' ∧ (∀ d M , kc ≤ d → CP 38 T n S M → ∃ M1, px_run (px_mk (kX5_readOr (px_ex px_tab (d)))) 8 ([some (Value.ref (37)), some (Value.int (nI o)), some (Value.int (1)), some (Value.int (nI m))], [], (hp (M) (J) (R) (43) (38) nL xs (D))) = some (some (Value.int (1)), (hp (M1) (J) (R) (43) (38) nL xs (D))) ∧ CP 38 T n S' M1 ∧ CF 38 M M1) ∧ (∀ c e d M , km ≤ d → MP T n S M → M 67 61 = -1 → M 67 62 = nI o → ∃ M1, px_run (px_mk (kX12_either (px_ex px_tab (d)))) 4 ([some (Value.ref (67))], [], (hp (M) (J) (R) (c) (e) nL xs (D))) = some (none, (hp (M1) (J) (R) (c) (e) nL xs (D))) ∧ MP T n S' M1 ∧ MF M M1 ∧ M1 67 61 = -1 ∧ M1 67 62 = nI o)) := by
    intro m S hV hm ht
    have t61 := hV.2.2.2.1
    refine ⟨S, PL.rf hV, fun d M hd hC => ⟨M, ?_, hC, CF.rf _ _⟩, fun c e d M hd hC h61 h62 => ⟨M, ?_, hC, MF.rf _, h61, h62⟩⟩
    · have h6 : M 37 6 = nI (Pt S) := hC.2.1.2.2.1
      rw [eX5_readOr_43_8, h6]
      by_cases hm2 : m < 160
      · simp (disch := omega) only [px_bd_s, px_psh_s, px_psh_n, px_vb_s, px_ib_s, px_wb_s, px_bo_s, px_bo_n, Bool.cond_decide, cond_true, cond_false, ite_not, Bool.and_true, if_true, if_false, not_true_eq_false, not_false_eq_true, i10, eq_self, decide_true, decide_false, Bool.or_true, Bool.true_or, Bool.or_false, Bool.false_or, Bool.false_eq_true, za160, if_neg, zs11, ht, not_false_eq_true, eX5_readOr_43_54]
      · simp (disch := omega) only [px_bd_s, px_psh_s, px_psh_n, px_vb_s, px_ib_s, px_wb_s, px_bo_s, px_bo_n, Bool.cond_decide, cond_true, cond_false, ite_not, Bool.and_true, if_true, if_false, not_true_eq_false, not_false_eq_true, i10, eq_self, decide_true, decide_false, Bool.or_true, Bool.true_or, Bool.or_false, Bool.false_or, Bool.false_eq_true, za160, if_pos, eX5_readOr_43_54]
    · have h6 : M 67 59 = nI (mtk (Pt S)) := hC.2.2.1.2.2.1
      have w := m_wr_n J R nL xs D c e (d := d) (by omega) h61
      rw [eX12_either_4, w]
      simp (disch := omega) only [px_bd_s, px_psh_s, px_psh_n, px_vb_s, px_ib_s, px_wb_s, px_bo_s, px_bo_n, Bool.cond_decide, cond_true, cond_false, ite_not, Bool.and_true, if_true, if_false, not_true_eq_false, not_false_eq_true, i10, eq_self, decide_true, decide_false, Bool.or_true, Bool.true_or, Bool.or_false, Bool.false_or, Bool.false_eq_true, eX12_either_4_2, h6, mz11, ht, eX12_either_38]
  intro g
  induction g with
  | zero =>
    intro m S hV hm hb
    have v1 := hV.1
    have v2 := hV.2.1
    have v5 := hV.2.2.2.2.1
    exact Or.inl (out m S hV (by omega) (by omega))
  | succ g ih =>
    intro m S hV hm hb
    obtain ⟨v1, v2, v3, t61, v5, v6, v7⟩ := id hV
    have nV := nx_V T hV
    have e0 : Pn (nx T n S) = Pn S := rfl
    by_cases ht : Pt S = 11
    · have hb2 := v5 (by omega)
      have wr : ∀ (d : Nat) (M M1 M2 M3 : Nat → Nat → Int32) (w : Int32), 3 ≤ d → CP 38 T n S M → px_ex px_tab (d) 61 [Value.ref (37)] (hp (M) (J) (R) (43) (38) nL xs (D)) = some (none, (hp (M1) (J) (R) (43) (38) nL xs (D))) → px_ex px_tab (d) 53 [Value.ref (37), Value.int (nI o)] (hp (M1) (J) (R) (43) (38) nL xs (D)) = some (some (Value.int (w)), (hp (M2) (J) (R) (43) (38) nL xs (D))) → px_ex px_tab (d) 40 [Value.ref (38), Value.int (nI (cls 2)), Value.int (0)] (hp (M2) (J) (R) (43) (38) nL xs (D)) = some (none, (hp (M3) (J) (R) (43) (38) nL xs (D))) → px_run (px_mk (kX5_readOr (px_ex px_tab (d)))) 8 ([some (Value.ref (37)), some (Value.int (nI o)), some (Value.int (1)), some (Value.int (nI m))], [], (hp (M) (J) (R) (43) (38) nL xs (D))) = px_run (px_mk (kX5_readOr (px_ex px_tab (d)))) 8 ([some (Value.ref (37)), some (Value.int (nI o)), some (Value.int (w)), some (Value.int (nI (m + 1)))], [], (hp (M3) (J) (R) (43) (38) nL xs (D))) := by
        intro d M M1 M2 M3 w hd hC a1 b1 c1
        have c1' : px_ex px_tab (d) 40 [Value.ref (38), Value.int (10), Value.int (0)] (hp (M2) (J) (R) (43) (38) nL xs (D)) = some (none, (hp (M3) (J) (R) (43) (38) nL xs (D))) := c1
        have h6 : M 37 6 = nI (Pt S) := hC.2.1.2.2.1
        rw [eX5_readOr_43_8, h6]
        simp (disch := omega) only [px_bd_s, px_psh_s, px_psh_n, px_vb_s, px_ib_s, px_wb_s, px_bo_s, px_bo_n, Bool.cond_decide, cond_true, cond_false, ite_not, Bool.and_true, if_true, if_false, not_true_eq_false, not_false_eq_true, i10, eq_self, decide_true, decide_false, Bool.or_true, Bool.true_or, Bool.or_false, Bool.false_or, Bool.false_eq_true, za160, if_neg, zs11, ht, a1, eX5_readOr_43_8_11, b1, eX5_readOr_43_8_14, c1', eX5_readOr_43_8_20, zp1]
      have mr : ∀ (c e d : Nat) (M M1 M2 M3 : Nat → Nat → Int32), 3 ≤ d → MP T n S M → M 67 61 = -1 → px_ex px_tab (d) 211 [Value.ref (67)] (hp (M) (J) (R) (c) (e) nL xs (D)) = some (none, (hp (M1) (J) (R) (c) (e) nL xs (D))) → px_ex px_tab (d) 221 [Value.ref (67)] (hp (M1) (J) (R) (c) (e) nL xs (D)) = some (none, (hp (M2) (J) (R) (c) (e) nL xs (D))) → px_ex px_tab (d) 218 [Value.ref (67), Value.int (nI 2), Value.int (0)] (hp (M2) (J) (R) (c) (e) nL xs (D)) = some (none, (hp (M3) (J) (R) (c) (e) nL xs (D))) → px_run (px_mk (kX12_either (px_ex px_tab (d)))) 4 ([some (Value.ref (67))], [], (hp (M) (J) (R) (c) (e) nL xs (D))) = px_run (px_mk (kX12_either (px_ex px_tab (d)))) 4 ([some (Value.ref (67))], [], (hp (M3) (J) (R) (c) (e) nL xs (D))) := by
        intro c e d M M1 M2 M3 hd hC h61 a1 b1 c1
        have c1' : px_ex px_tab (d) 218 [Value.ref (67), Value.int (2), Value.int (0)] (hp (M2) (J) (R) (c) (e) nL xs (D)) = some (none, (hp (M3) (J) (R) (c) (e) nL xs (D))) := c1
        have h6 : M 67 59 = nI (mtk (Pt S)) := hC.2.2.1.2.2.1
        have w := m_wr_n J R nL xs D c e (d := d) (by omega) h61
        rw [eX12_either_4, w]
        simp (disch := omega) only [px_bd_s, px_psh_s, px_psh_n, px_vb_s, px_ib_s, px_wb_s, px_bo_s, px_bo_n, Bool.cond_decide, cond_true, cond_false, ite_not, Bool.and_true, if_true, if_false, not_true_eq_false, not_false_eq_true, i10, eq_self, decide_true, decide_false, Bool.or_true, Bool.true_or, Bool.or_false, Bool.false_or, Bool.false_eq_true, eX12_either_4_2, h6, mz11, ht, a1, eX12_either_4_9, b1, eX12_either_4_11, c1', eX12_either_4_15]
      rcases hX (nx T n S) nV.1 with ⟨S2, g2, xc, xm⟩ | ⟨b, hb3, xc, xm⟩
      · obtain ⟨l1, l2, l3⟩ := PL_2 (j := 2) hV (by omega) g2 (by decide) (by decide) (by decide)
        have g160 : Pn S2 < 160 := by have := g2.1.1; have := g2.1.2.1; omega
        have l3' : m + 1 ≤ Pb (em S2 2 0) := by
          show m + 1 ≤ Pb S2
          omega
        rcases ih (m + 1) (em S2 2 0) l1.1 (by omega) l3' with ⟨S', i1, ic, im⟩ | ⟨b, hb3, ic, im⟩
        · refine Or.inl ⟨S', l1.tr i1, ?_, ?_⟩
          · intro d M hd hC
            obtain ⟨M1, a1, a2, a3⟩ := c_nx_43 J R nL xs D (d := d) (by omega) v2 v3 hC
            obtain ⟨M2, b1, b2, b3⟩ := xc d M1 hd a2
            obtain ⟨M3, c1, c2, c3⟩ := c_em_43 J R nL xs D (d := d) (by omega) g160 b2 2 0
            obtain ⟨M4, d1, d2, d3⟩ := ic d M3 hd c2
            exact ⟨M4, (wr d M M1 M2 M3 1 (by omega) hC a1 b1 c1).trans d1, d2, ((a3.tr b3).tr c3).tr d3⟩
          · intro c e d M hd hC h61 h62
            obtain ⟨M1, a1, a2, a3, a4, a5⟩ := m_nx J R nL xs D c e (d := d) (by omega) v2 v3 hC
            obtain ⟨M2, b1, b2, b3, b4, b5⟩ := xm c e d M1 hd a2 (a4.trans h61) (a5.trans h62)
            obtain ⟨M3, c1, c2, c3, c4, c5⟩ := m_em J R nL xs D c e (d := d) (by omega) g160 b2 2 0
            obtain ⟨M4, d1, d2, d3, d4, d5⟩ := im c e d M3 hd c2 (c4.trans b4) (c5.trans b5)
            exact ⟨M4, (mr c e d M M1 M2 M3 (by omega) hC h61 a1 b1 c1).trans d1, d2, ((a3.tr b3).tr c3).tr d3, d4, d5⟩
        · refine Or.inr ⟨b, hb3, ?_, ?_⟩
          · intro d M hd hC
            obtain ⟨M1, a1, a2, a3⟩ := c_nx_43 J R nL xs D (d := d) (by omega) v2 v3 hC
            obtain ⟨M2, b1, b2, b3⟩ := xc d M1 hd a2
            obtain ⟨M3, c1, c2, c3⟩ := c_em_43 J R nL xs D (d := d) (by omega) g160 b2 2 0
            obtain ⟨M4, d1, d2, d3⟩ := ic d M3 hd c2
            exact ⟨M4, (wr d M M1 M2 M3 1 (by omega) hC a1 b1 c1).trans d1, d2, ((a3.tr b3).tr c3).tr d3⟩
          · intro c e d M hd hC h61 h62
            obtain ⟨M1, a1, a2, a3, a4, a5⟩ := m_nx J R nL xs D c e (d := d) (by omega) v2 v3 hC
            obtain ⟨M2, b1, b2, b3, b4, b5⟩ := xm c e d M1 hd a2 (a4.trans h61) (a5.trans h62)
            obtain ⟨M3, c1, c2, c3, c4, c5⟩ := m_em J R nL xs D c e (d := d) (by omega) g160 b2 2 0
            obtain ⟨M4, N, d1, d2, d2', d3, d4, d5⟩ := im c e d M3 hd c2 (c4.trans b4) (c5.trans b5)
            have l4 := l1.2.2.2.1
            exact ⟨M4, N, (mr c e d M M1 M2 M3 (by omega) hC h61 a1 b1 c1).trans d1, d2, by omega, ((a3.tr b3).tr c3).tr d3, d4, d5⟩
      · refine Or.inr ⟨b, hb3, ?_, ?_⟩
        · intro d M hd hC
          obtain ⟨M1, a1, a2, a3⟩ := c_nx_43 J R nL xs D (d := d) (by omega) v2 v3 hC
          obtain ⟨M2, b1, b2, b3⟩ := xc d M1 hd a2
          obtain ⟨M3, c1, c2, c3⟩ := c_em_f_43 J R nL xs D (d := d) (by omega) b2 (nI (cls 2)) 0
          refine ⟨M3, (wr d M M1 M2 M3 0 (by omega) hC a1 b1 c1).trans ?_, c2, (a3.tr b3).tr c3⟩
          rw [eX5_readOr_43_8]
          by_cases hm2 : m + 1 < 160
          · simp (disch := omega) only [px_bd_s, px_psh_s, px_psh_n, px_vb_s, px_ib_s, px_wb_s, px_bo_s, px_bo_n, Bool.cond_decide, cond_true, cond_false, ite_not, Bool.and_true, if_true, if_false, not_true_eq_false, not_false_eq_true, i10, eq_self, decide_true, decide_false, Bool.or_true, Bool.true_or, Bool.or_false, Bool.false_or, Bool.false_eq_true, za160, if_neg, eX5_readOr_43_54]
          · simp (disch := omega) only [px_bd_s, px_psh_s, px_psh_n, px_vb_s, px_ib_s, px_wb_s, px_bo_s, px_bo_n, Bool.cond_decide, cond_true, cond_false, ite_not, Bool.and_true, if_true, if_false, not_true_eq_false, not_false_eq_true, i10, eq_self, decide_true, decide_false, Bool.or_true, Bool.true_or, Bool.or_false, Bool.false_or, Bool.false_eq_true, za160, if_pos, eX5_readOr_43_54]
        · intro c e d M hd hC h61 h62
          obtain ⟨M1, a1, a2, a3, a4, a5⟩ := m_nx J R nL xs D c e (d := d) (by omega) v2 v3 hC
          obtain ⟨M2, N, b1, b2, b2', b3, b4, b5⟩ := xm c e d M1 hd a2 (a4.trans h61) (a5.trans h62)
          have nb := nV.2
          rw [e0] at b2'
          obtain ⟨M3, c1, c2, c3, c4, c5⟩ := m_em_f J R nL xs D c e (d := d) (by omega) (show N < 160 by omega) b2 (nI 2) 0
          have w := m_wr_y J R nL xs D c e (d := d) (by omega) (show b ≤ 160 by omega) (c4.trans b4)
          refine ⟨M3, N + 1, (mr c e d M M1 M2 M3 (by omega) hC h61 a1 b1 c1).trans ?_, c2, by omega, (a3.tr b3).tr c3, c4.trans b4, c5.trans b5⟩
          simp only [px_bd_s, px_psh_s, px_psh_n, px_vb_s, px_ib_s, px_wb_s, px_bo_s, px_bo_n, Bool.cond_decide, cond_true, cond_false, ite_not, Bool.and_true, if_true, if_false, not_true_eq_false, not_false_eq_true, i10, eq_self, decide_true, decide_false, Bool.or_true, Bool.true_or, Bool.or_false, Bool.false_or, Bool.false_eq_true, eX12_either_4, w, eX12_either_4_2, eX12_either_38]
    · exact Or.inl (out m S hV (by omega) ht)
theorem p_or_43 {T : Nat → Nat} {n kc km o : Nat} (hn : n ≤ 160) (hkc : 3 ≤ kc) (hkm : 3 ≤ km) (hX : XP J R 43 38 nL xs D T n kc km 53 221 o) : XP J R 43 38 nL xs D T n (kc + 1) (km + 1) 52 220 o := by
  intro S hV
  rcases hX S hV with ⟨S1, g, xc, xm⟩ | ⟨b, hb, xc, xm⟩
  · have cc : ∀ (d : Nat) (M M1 : Nat → Nat → Int32), px_ex px_tab (d) 53 [Value.ref (37), Value.int (nI o)] (hp (M) (J) (R) (43) (38) nL xs (D)) = some (some (Value.int (1)), (hp (M1) (J) (R) (43) (38) nL xs (D))) → px_ex px_tab (d + 1) 52 [Value.ref (37), Value.int (nI o)] (hp (M) (J) (R) (43) (38) nL xs (D)) = px_run (px_mk (kX5_readOr (px_ex px_tab (d)))) 8 ([some (Value.ref (37)), some (Value.int (nI o)), some (Value.int (1)), some (Value.int (0))], [], (hp (M1) (J) (R) (43) (38) nL xs (D))) := by
      intro d M M1 a1
      rw [xX5_readOr, eX5_readOr_43_0, a1]
      simp only [px_bd_s, px_psh_s, px_psh_n, px_vb_s, px_ib_s, px_wb_s, px_bo_s, px_bo_n, Bool.cond_decide, cond_true, cond_false, ite_not, Bool.and_true, if_true, if_false, not_true_eq_false, not_false_eq_true, i10, eq_self, decide_true, decide_false, Bool.or_true, Bool.true_or, Bool.or_false, Bool.false_or, Bool.false_eq_true, eX5_readOr_43_0_3]
    have mc : ∀ (c e d : Nat) (M M1 : Nat → Nat → Int32), px_ex px_tab (d) 221 [Value.ref (67)] (hp (M) (J) (R) (c) (e) nL xs (D)) = some (none, (hp (M1) (J) (R) (c) (e) nL xs (D))) → px_ex px_tab (d + 1) 220 [Value.ref (67)] (hp (M) (J) (R) (c) (e) nL xs (D)) = px_run (px_mk (kX12_either (px_ex px_tab (d)))) 4 ([some (Value.ref (67))], [], (hp (M1) (J) (R) (c) (e) nL xs (D))) := by
      intro c e d M M1 a1
      rw [xX12_either, eX12_either_0, a1]
      simp only [px_bd_s, px_psh_s, px_psh_n, px_vb_s, px_ib_s, px_wb_s, px_bo_s, px_bo_n, Bool.cond_decide, cond_true, cond_false, ite_not, Bool.and_true, if_true, if_false, not_true_eq_false, not_false_eq_true, i10, eq_self, decide_true, decide_false, Bool.or_true, Bool.true_or, Bool.or_false, Bool.false_or, Bool.false_eq_true, eX12_either_0_2]
    rcases l_or_43 J R nL xs D hn hkc hkm hX 160 0 S1 g.1 (by omega) (Nat.zero_le _) with ⟨S', l, lc, lm⟩ | ⟨b, hb, lc, lm⟩
    · refine Or.inl ⟨S', g.pl l, ?_, ?_⟩
      · intro dc M hd hC
        obtain ⟨d, rfl⟩ : ∃ d', dc = d' + 1 := ⟨dc - 1, by omega⟩
        obtain ⟨M1, a1, a2, a3⟩ := xc d M (by omega) hC
        obtain ⟨M2, b1, b2, b3⟩ := lc d M1 (by omega) a2
        exact ⟨M2, (cc d M M1 a1).trans b1, b2, a3.tr b3⟩
      · intro c e dm M hd hC h61 h62
        obtain ⟨d, rfl⟩ : ∃ d', dm = d' + 1 := ⟨dm - 1, by omega⟩
        obtain ⟨M1, a1, a2, a3, a4, a5⟩ := xm c e d M (by omega) hC h61 h62
        obtain ⟨M2, b1, b2, b3, b4, b5⟩ := lm c e d M1 (by omega) a2 a4 a5
        exact ⟨M2, (mc c e d M M1 a1).trans b1, b2, a3.tr b3, b4, b5⟩
    · refine Or.inr ⟨b, hb, ?_, ?_⟩
      · intro dc M hd hC
        obtain ⟨d, rfl⟩ : ∃ d', dc = d' + 1 := ⟨dc - 1, by omega⟩
        obtain ⟨M1, a1, a2, a3⟩ := xc d M (by omega) hC
        obtain ⟨M2, b1, b2, b3⟩ := lc d M1 (by omega) a2
        exact ⟨M2, (cc d M M1 a1).trans b1, b2, a3.tr b3⟩
      · intro c e dm M hd hC h61 h62
        obtain ⟨d, rfl⟩ : ∃ d', dm = d' + 1 := ⟨dm - 1, by omega⟩
        obtain ⟨M1, a1, a2, a3, a4, a5⟩ := xm c e d M (by omega) hC h61 h62
        obtain ⟨M2, N, b1, b2, b2', b3, b4, b5⟩ := lm c e d M1 (by omega) a2 a4 a5
        have g4 := g.2.2.2.1
        exact ⟨M2, N, (mc c e d M M1 a1).trans b1, b2, by omega, a3.tr b3, b4, b5⟩
  · refine Or.inr ⟨b, hb, ?_, ?_⟩
    · intro dc M hd hC
      obtain ⟨d, rfl⟩ : ∃ d', dc = d' + 1 := ⟨dc - 1, by omega⟩
      obtain ⟨M1, a1, a2, a3⟩ := xc d M (by omega) hC
      refine ⟨M1, ?_, a2, a3⟩
      rw [xX5_readOr, eX5_readOr_43_0, a1]
      simp only [px_bd_s, px_psh_s, px_psh_n, px_vb_s, px_ib_s, px_wb_s, px_bo_s, px_bo_n, Bool.cond_decide, cond_true, cond_false, ite_not, Bool.and_true, if_true, if_false, not_true_eq_false, not_false_eq_true, i10, eq_self, decide_true, decide_false, Bool.or_true, Bool.true_or, Bool.or_false, Bool.false_or, Bool.false_eq_true, eX5_readOr_43_0_3, eX5_readOr_43_8, show ¬ (160 : Int32) ≤ 0 from by decide, eX5_readOr_43_54]
    · intro c e dm M hd hC h61 h62
      obtain ⟨d, rfl⟩ : ∃ d', dm = d' + 1 := ⟨dm - 1, by omega⟩
      obtain ⟨M1, N, a1, a2, a2', a3, a4, a5⟩ := xm c e d M (by omega) hC h61 h62
      refine ⟨M1, N, ?_, a2, a2', a3, a4, a5⟩
      have w := m_wr_y J R nL xs D c e (d := d) (by omega) (show b ≤ 160 by omega) a4
      rw [xX12_either, eX12_either_0, a1]
      simp only [px_bd_s, px_psh_s, px_psh_n, px_vb_s, px_ib_s, px_wb_s, px_bo_s, px_bo_n, Bool.cond_decide, cond_true, cond_false, ite_not, Bool.and_true, if_true, if_false, not_true_eq_false, not_false_eq_true, i10, eq_self, decide_true, decide_false, Bool.or_true, Bool.true_or, Bool.or_false, Bool.false_or, Bool.false_eq_true, eX12_either_0_2, eX12_either_4, w, eX12_either_4_2, eX12_either_38]
end S86
