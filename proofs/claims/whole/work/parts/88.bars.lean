/-! PART 88: READING: the bars -/
def BV (S : PS) (q : Nat) (pt : Nat → Nat) : Prop := q ≤ 6 ∧ pt 0 = 0 ∧ pt q = Pn S ∧ ∀ i, i < q → pt i ≤ pt (i + 1) ∧ pt (i + 1) ≤ Pn S ∧ wfR (Pc S) (pt (i + 1) - pt i) (pt i) 0
def CB (e q : Nat) (pt : Nat → Nat) (M : Nat → Nat → Int32) : Prop := M e 0 = nI q ∧ ∀ i, i < q → M (e + 1) i = nI (pt (i + 1))
def MB (q : Nat) (pt : Nat → Nat) (M : Nat → Nat → Int32) : Prop := ∀ i, i < q → M 98 (8 + i) = nI (pt i)
def CG (e : Nat) (M M1 : Nat → Nat → Int32) : Prop := frm [37, e, e + 1, e + 2, e + 3] [] M M1 ∧ ∀ k, k < 4 → M1 37 k = M 37 k
def MG (M M1 : Nat → Nat → Int32) : Prop := frm [96, 97, 98] [57, 58, 59, 60, 61, 62, 63] M M1 ∧ (∀ i, i < 160 → M1 96 i = M 96 i ∧ M1 97 i = M 97 i) ∧ ∀ i, i < 8 → M1 98 i = M 98 i
def MQs (S : PS) (M : Nat → Nat → Int32) : Prop := M 67 63 = nI (Pn S) ∧ ∀ i, i < Pn S → M 96 (160 + i) = nI (Pc S i) ∧ M 97 (160 + i) = Pl S i
theorem CG.tr {e : Nat} {M M1 M2 : Nat → Nat → Int32} (h : CG e M M1) (h2 : CG e M1 M2) : CG e M M2 := ⟨h.1.tr h2.1, fun k hk => (h2.2 k hk).trans (h.2 k hk)⟩
theorem MG.tr {M M1 M2 : Nat → Nat → Int32} (h : MG M M1) (h2 : MG M1 M2) : MG M M2 := ⟨h.1.tr h2.1, fun i hi => ⟨((h2.2.1 i hi).1).trans (h.2.1 i hi).1, ((h2.2.1 i hi).2).trans (h.2.1 i hi).2⟩, fun i hi => (h2.2.2 i hi).trans (h.2.2 i hi)⟩
theorem CF.g {e : Nat} {M M1 : Nat → Nat → Int32} (h : CF e M M1) : CG e M M1 := ⟨h.1.mono (by simp) (by simp), h.2.1⟩
theorem MF.g {M M1 : Nat → Nat → Int32} (h : MF M M1) : MG M M1 := ⟨h.1.mono (by simp) (by simp), h.2, fun i _ => by rw [h.1.1 98 (by decide) (by decide)]⟩
theorem MG.rf (M : Nat → Nat → Int32) : MG M M := ⟨frm.rf _ _ _, fun _ _ => ⟨rfl, rfl⟩, fun _ _ => rfl⟩
theorem MF.b {q : Nat} {pt : Nat → Nat} {M M1 : Nat → Nat → Int32} (h : MF M M1) (hb : MB q pt M) : MB q pt M1 := by
  unfold MB
  rw [h.1.1 98 (by decide) (by decide)]
  exact hb
/-- where a bar begins -/
theorem MP_pt {T : Nat → Nat} {n q : Nat} {pt : Nat → Nat} {S : PS} {M : Nat → Nat → Int32} (h : MP T n S M) (hb : MB q pt M) (hq : q ≤ 6) (hp' : pt q = Pn S) : MP T n S (px_uR M 98 (upd (M 98) (8 + q) (nI (Pn S)))) ∧ MB (q + 1) pt (px_uR M 98 (upd (M 98) (8 + q) (nI (Pn S)))) ∧ MG M (px_uR M 98 (upd (M 98) (8 + q) (nI (Pn S)))) := by
  refine ⟨h, fun i hi => ?_, (frm.rf _ _ _).u 98 _ (by decide) (by decide), fun _ _ => ⟨rfl, rfl⟩, fun i hi => ?_⟩
  · show upd (M 98) (8 + q) (nI (Pn S)) (8 + i) = nI (pt i)
    by_cases e : i = q
    · rw [e, pk_us, hp']
    · rw [pk_un (by omega)]
      exact hb i (by omega)
  · show upd (M 98) (8 + q) (nI (Pn S)) i = M 98 i
    rw [pk_un (by omega)]
theorem BV_s {T : Nat → Nat} {n q : Nat} {pt : Nat → Nat} {S S2 : PS} (h : BV S q pt) (hq : q < 6) (g : PG n (nx T n S) S2) : BV (nx T n S2) (q + 1) (ups' pt (q + 1) (Pn S2)) := by
  obtain ⟨h1, h2, h3, h4⟩ := h
  obtain ⟨g1, g2, g3, g4, g5, g6⟩ := g
  have e0 : Pn (nx T n S) = Pn S := rfl
  have g2' : PX S S2 := g2
  rw [e0] at g4 g5 g6
  refine ⟨by omega, ?_, ups'_s _ _ _, fun i hi => ?_⟩
  · rw [ups'_n _ _ (by omega)]
    exact h2
  · show ups' pt (q + 1) (Pn S2) i ≤ ups' pt (q + 1) (Pn S2) (i + 1) ∧ ups' pt (q + 1) (Pn S2) (i + 1) ≤ Pn S2 ∧ wfR (Pc S2) (ups' pt (q + 1) (Pn S2) (i + 1) - ups' pt (q + 1) (Pn S2) i) (ups' pt (q + 1) (Pn S2) i) 0
    by_cases e : i = q
    · subst e
      rw [ups'_s, ups'_n _ _ (by omega), h3]
      exact ⟨by omega, Nat.le_refl _, wfT_R _ _ _ _ (g6 0 (Nat.zero_le _))⟩
    · rw [ups'_n _ _ (by omega), ups'_n _ _ (by omega)]
      obtain ⟨k1, k2, k3⟩ := h4 i (by omega)
      refine ⟨k1, by omega, wfR_c _ _ _ (fun j j1 j2 => ?_) k3⟩
      exact ((g2'.2 j (by omega)).1).symm
section S88
variable (J : Nat → Nat → Int64) (R : Nat → Nat → Option Nat) (nL : Nat) (xs : Nat → Int32) (D : px_H)
theorem r_bars_38 {T : Nat → Nat} {n : Nat} (hn : n ≤ 160) : ∀ (g q : Nat) (S : PS) (pt : Nat → Nat), q + g = 6 → PV n S → BV S q pt → (∃ S' nb pt', PV n S' ∧ BV S' nb pt' ∧ (∀ d M, 51 ≤ d → CP 43 T n S M → CB 43 q pt M → ∃ M1, px_run (px_mk (kX5_readBars (px_ex px_tab (d)))) 2 ([some (Value.ref (37)), some (Value.int (nI q))], [], (hp (M) (J) (R) (38) (43) nL xs (D))) = some (some (Value.int (1)), (hp (M1) (J) (R) (38) (43) nL xs (D))) ∧ CP 43 T n S' M1 ∧ CB 43 nb pt' M1 ∧ CG 43 M M1) ∧ (∀ c e d M, 41 ≤ d → MP T n S M → M 67 61 = -1 → M 67 62 = 0 → MB q pt M → ∃ M1, px_run (px_mk (kX12_reads (px_ex px_tab (d)))) 31 ([some (Value.ref (67)), some (Value.int (nI q))], [], (hp (M) (J) (R) (c) (e) nL xs (D))) = some (some (Value.int (nI nb)), (hp (M1) (J) (R) (c) (e) nL xs (D))) ∧ MQs S' M1 ∧ MB (nb + 1) pt' M1 ∧ MG M M1 ∧ M1 67 61 = -1)) ∨ (∃ b, b ≤ n ∧ (∀ d M, 51 ≤ d → CP 43 T n S M → CB 43 q pt M → ∃ M1, px_run (px_mk (kX5_readBars (px_ex px_tab (d)))) 2 ([some (Value.ref (37)), some (Value.int (nI q))], [], (hp (M) (J) (R) (38) (43) nL xs (D))) = some (some (Value.int (0)), (hp (M1) (J) (R) (38) (43) nL xs (D))) ∧ M1 37 4 = nI b ∧ CG 43 M M1) ∧ (∀ c e d M, 41 ≤ d → MP T n S M → M 67 61 = -1 → M 67 62 = 0 → MB q pt M → ∃ M1 w, px_run (px_mk (kX12_reads (px_ex px_tab (d)))) 31 ([some (Value.ref (67)), some (Value.int (nI q))], [], (hp (M) (J) (R) (c) (e) nL xs (D))) = some (some (Value.int (w)), (hp (M1) (J) (R) (c) (e) nL xs (D))) ∧ MG M M1 ∧ M1 67 61 = nI b)) := by
  have wend : ∀ (c e q : Nat) (d b : Nat) (M : Nat → Nat → Int32), q ≤ 6 → b ≤ 160 → 2 ≤ d → M 67 61 = nI b → ∃ M1 w, px_run (px_mk (kX12_reads (px_ex px_tab (d)))) 31 ([some (Value.ref (67)), some (Value.int (nI q))], [], (hp (M) (J) (R) (c) (e) nL xs (D))) = some (some (Value.int (w)), (hp (M1) (J) (R) (c) (e) nL xs (D))) ∧ MG M M1 ∧ M1 67 61 = nI b := by
    intro c e q d b M hq hb hd h61
    have w := m_wr_y J R nL xs D c e (d := d) (by omega) hb h61
    have nw := m_need_w J R nL xs D c e (d := d) hd hb (M := px_uR M 98 (upd (M 98) (8 + q) (M 67 63))) h61 0
    have e8 : (8 : Int32) + nI q = nI (8 + q) := nI_add 8 q
    refine ⟨px_uR M 98 (upd (M 98) (8 + q) (M 67 63)), nI q, ?_, ⟨(frm.rf _ _ _).u 98 _ (by decide) (by decide), fun _ _ => ⟨rfl, rfl⟩, fun i hi => ?_⟩, h61⟩
    · rw [eX12_reads_31, w]
      simp (disch := omega) only [px_bd_s, px_psh_s, px_psh_n, px_vb_s, px_ib_s, px_wb_s, px_bo_s, px_bo_n, Bool.cond_decide, cond_true, cond_false, ite_not, Bool.and_true, if_true, if_false, not_true_eq_false, not_false_eq_true, i10, eq_self, decide_true, decide_false, Bool.or_true, Bool.true_or, Bool.or_false, Bool.false_or, Bool.false_eq_true, eX12_reads_31_2, eX12_reads_97, e8, px_inbT, nI_clamp, nw, eX12_reads_97_11]
    · show upd (M 98) (8 + q) (M 67 63) i = M 98 i
      rw [pk_un (by omega)]
  intro g
  induction g with
  | zero =>
    intro q S pt hg hV hB
    obtain ⟨v1, v2, v3, t61, v5, v6, v7⟩ := id hV
    have q6 : q = 6 := by omega
    subst q6
    by_cases t0 : Pt S = 0
    · refine Or.inl ⟨S, 6, pt, hV, hB, ?_, ?_⟩
      · intro d M hd hC hb
        refine ⟨M, ?_, hC, hb, frm.rf _ _ _, fun _ _ => rfl⟩
        have h6 : M 37 6 = nI (Pt S) := hC.2.1.2.2.1
        rw [eX5_readBars_38_2]
        simp (disch := omega) only [px_bd_s, px_psh_s, px_psh_n, px_vb_s, px_ib_s, px_wb_s, px_bo_s, px_bo_n, Bool.cond_decide, cond_true, cond_false, ite_not, Bool.and_true, if_true, if_false, not_true_eq_false, not_false_eq_true, i10, eq_self, decide_true, decide_false, Bool.or_true, Bool.true_or, Bool.or_false, Bool.false_or, Bool.false_eq_true, show (6 : Int32) ≤ nI 6 from by decide, eX5_readBars_38_57, h6, zs0, t0, eX5_readBars_38_69]
      · intro c e d M hd hC h61 h62 hb
        obtain ⟨d, rfl⟩ : ∃ d', d = d' + 1 := ⟨d - 1, by omega⟩
        obtain ⟨p1, p2, p3⟩ := MP_pt hC hb (Nat.le_refl _) hB.2.2.1
        obtain ⟨M1, a1, a2, a3, a4, a5⟩ := m_nx J R nL xs D c e (d := d) (by omega) v2 v3 p1
        refine ⟨M1, ?_, ⟨a2.2.2.2.2.1, a2.2.2.2.2.2⟩, a3.b p2, p3.tr a3.g, a4.trans h61⟩
        have h6 : M 67 59 = nI (mtk (Pt S)) := hC.2.2.1.2.2.1
        have h63 : M 67 63 = nI (Pn S) := hC.2.2.2.2.1
        have w := m_wr_n J R nL xs D c e (d := d + 1) (by omega) h61
        have w2 := m_wr_n J R nL xs D c e (d := d) (by omega) (M := px_uR M 98 (upd (M 98) (8 + 6) (nI (Pn S)))) h61
        have h6' : px_uR M 98 (upd (M 98) (8 + 6) (nI (Pn S))) 67 59 = nI (mtk (Pt S)) := h6
        have e8 : (8 : Int32) + nI 6 = nI (8 + 6) := nI_add 8 6
        rw [eX12_reads_31, w]
        simp (disch := omega) only [px_bd_s, px_psh_s, px_psh_n, px_vb_s, px_ib_s, px_wb_s, px_bo_s, px_bo_n, Bool.cond_decide, cond_true, cond_false, ite_not, Bool.and_true, if_true, if_false, not_true_eq_false, not_false_eq_true, i10, eq_self, decide_true, decide_false, Bool.or_true, Bool.true_or, Bool.or_false, Bool.false_or, Bool.false_eq_true, eX12_reads_31_2, h6, mz10, t0, show ¬ (0 : Nat) = 10 from by decide, eX12_reads_97, e8, px_inbT, nI_clamp, h63, xX12_need, eX12_need_0, w2, eX12_need_0_2, eX12_need_8, h6', mz0, eX12_need_23, a1, eX12_need_23_2, eX12_need_27, eX12_reads_97_11]
    · refine Or.inr ⟨Pb S, by omega, ?_, ?_⟩
      · intro d M hd hC hb
        refine ⟨M, ?_, hC.2.1.1, frm.rf _ _ _, fun _ _ => rfl⟩
        have h6 : M 37 6 = nI (Pt S) := hC.2.1.2.2.1
        rw [eX5_readBars_38_2]
        simp (disch := omega) only [px_bd_s, px_psh_s, px_psh_n, px_vb_s, px_ib_s, px_wb_s, px_bo_s, px_bo_n, Bool.cond_decide, cond_true, cond_false, ite_not, Bool.and_true, if_true, if_false, not_true_eq_false, not_false_eq_true, i10, eq_self, decide_true, decide_false, Bool.or_true, Bool.true_or, Bool.or_false, Bool.false_or, Bool.false_eq_true, show (6 : Int32) ≤ nI 6 from by decide, eX5_readBars_38_57, h6, zs0, t0, eX5_readBars_38_68, eX5_readBars_38_69]
      · intro c e d M hd hC h61 h62 hb
        obtain ⟨d, rfl⟩ : ∃ d', d = d' + 1 := ⟨d - 1, by omega⟩
        have h6 : M 67 59 = nI (mtk (Pt S)) := hC.2.2.1.2.2.1
        have w := m_wr_n J R nL xs D c e (d := d + 1) (by omega) h61
        by_cases t10 : Pt S = 10
        · have c1 := m_can J R nL xs D c e (d := d + 1) (by omega) h61 hC.2.2.1.1
          obtain ⟨M1, w1, a1, a2, a3⟩ := wend c e 6 (d + 1) (Pb S) (px_uR M 67 (upd (M 67) 61 (nI (Pb S)))) (by omega) (by omega) (by omega) rfl
          refine ⟨M1, w1, ?_, (((MF.rf M).k 61 (by decide) _).g).tr a2, a3⟩
          refine Eq.trans ?_ a1
          rw [eX12_reads_31, w]
          simp (disch := omega) only [px_bd_s, px_psh_s, px_psh_n, px_vb_s, px_ib_s, px_wb_s, px_bo_s, px_bo_n, Bool.cond_decide, cond_true, cond_false, ite_not, Bool.and_true, if_true, if_false, not_true_eq_false, not_false_eq_true, i10, eq_self, decide_true, decide_false, Bool.or_true, Bool.true_or, Bool.or_false, Bool.false_or, Bool.false_eq_true, eX12_reads_31_2, h6, mz10, t10, show nI 6 = 6 from rfl, c1, eX12_reads_31_12]
        · obtain ⟨p1, p2, p3⟩ := MP_pt hC hb (Nat.le_refl _) hB.2.2.1
          have c1 := m_can J R nL xs D c e (d := d) (by omega) (M := px_uR M 98 (upd (M 98) (8 + 6) (nI (Pn S)))) h61 p1.2.2.1.1
          refine ⟨px_uR (px_uR M 98 (upd (M 98) (8 + 6) (nI (Pn S)))) 67 (upd (M 67) 61 (nI (Pb S))), nI 6, ?_, p3.tr ((MF.rf _).k 61 (by decide) _).g, rfl⟩
          have h63 : M 67 63 = nI (Pn S) := hC.2.2.2.2.1
          have w2 := m_wr_n J R nL xs D c e (d := d) (by omega) (M := px_uR M 98 (upd (M 98) (8 + 6) (nI (Pn S)))) h61
          have h6' : px_uR M 98 (upd (M 98) (8 + 6) (nI (Pn S))) 67 59 = nI (mtk (Pt S)) := h6
          have e8 : (8 : Int32) + nI 6 = nI (8 + 6) := nI_add 8 6
          rw [eX12_reads_31, w]
          simp (disch := omega) only [px_bd_s, px_psh_s, px_psh_n, px_vb_s, px_ib_s, px_wb_s, px_bo_s, px_bo_n, Bool.cond_decide, cond_true, cond_false, ite_not, Bool.and_true, if_true, if_false, not_true_eq_false, not_false_eq_true, i10, eq_self, decide_true, decide_false, Bool.or_true, Bool.true_or, Bool.or_false, Bool.false_or, Bool.false_eq_true, eX12_reads_31_2, h6, mz10, t10, eX12_reads_97, e8, px_inbT, nI_clamp, h63, xX12_need, eX12_need_0, w2, eX12_need_0_2, eX12_need_8, h6', mz0, t0, c1, eX12_need_8_6, eX12_need_27, eX12_reads_97_11]
          rfl
  | succ g ih =>
    intro q S pt hg hV hB
    obtain ⟨v1, v2, v3, t61, v5, v6, v7⟩ := id hV
    have x6 : ¬ (6 : Int32) ≤ nI q := fun z => by
      have := (nI_leI (a := 6) (by decide) (by omega)).mp z
      omega
    have y6 : ¬ nI q = 6 := fun z => by
      have := (nI_eq (b := 6) (by omega) (by decide)).mp z
      omega
    by_cases t10 : Pt S = 10
    · have hb2 := v5 (by omega)
      have nV := nx_V T hV
      have XPo := (p_lev_38 J R nL xs D hn (T := T) 5 0 rfl).2.2
      have cs : ∀ (d : Nat) (M M1 M2 : Nat → Nat → Int32) (w : Int32), CP 43 T n S M → px_ex px_tab (d) 61 [Value.ref (37)] (hp (M) (J) (R) (38) (43) nL xs (D)) = some (none, (hp (M1) (J) (R) (38) (43) nL xs (D))) → px_ex px_tab (d) 52 [Value.ref (37), Value.int (nI 0)] (hp (M1) (J) (R) (38) (43) nL xs (D)) = some (some (Value.int (w)), (hp (M2) (J) (R) (38) (43) nL xs (D))) → px_run (px_mk (kX5_readBars (px_ex px_tab (d)))) 2 ([some (Value.ref (37)), some (Value.int (nI q))], [], (hp (M) (J) (R) (38) (43) nL xs (D))) = px_p (kX5_readBars (px_ex px_tab (d))) 2 12 ([some (Value.ref (37)), some (Value.int (nI q))], [Value.int (w)], (hp (M2) (J) (R) (38) (43) nL xs (D))) := by
        intro d M M1 M2 w hC a1 b1
        have b1' : px_ex px_tab (d) 52 [Value.ref (37), Value.int (0)] (hp (M1) (J) (R) (38) (43) nL xs (D)) = some (some (Value.int (w)), (hp (M2) (J) (R) (38) (43) nL xs (D))) := b1
        have h6 : M 37 6 = nI (Pt S) := hC.2.1.2.2.1
        rw [eX5_readBars_38_2]
        simp (disch := omega) only [px_bd_s, px_psh_s, px_psh_n, px_vb_s, px_ib_s, px_wb_s, px_bo_s, px_bo_n, Bool.cond_decide, cond_true, cond_false, ite_not, Bool.and_true, if_true, if_false, not_true_eq_false, not_false_eq_true, i10, eq_self, decide_true, decide_false, Bool.or_true, Bool.true_or, Bool.or_false, Bool.false_or, Bool.false_eq_true, x6, h6, zs10, t10, a1, eX5_readBars_38_2_9, b1']
      have msn : ∀ (c e d : Nat) (M M0 M1 M2 : Nat → Nat → Int32), 4 ≤ d → MP T n S M → M 67 61 = -1 → M0 = px_uR M 98 (upd (M 98) (8 + q) (nI (Pn S))) → px_ex px_tab (d) 211 [Value.ref (67)] (hp (M0) (J) (R) (c) (e) nL xs (D)) = some (none, (hp (M1) (J) (R) (c) (e) nL xs (D))) → px_ex px_tab (d + 1) 220 [Value.ref (67)] (hp (M1) (J) (R) (c) (e) nL xs (D)) = some (none, (hp (M2) (J) (R) (c) (e) nL xs (D))) → px_run (px_mk (kX12_reads (px_ex px_tab (d + 1)))) 31 ([some (Value.ref (67)), some (Value.int (nI q))], [], (hp (M) (J) (R) (c) (e) nL xs (D))) = px_p (kX12_reads (px_ex px_tab (d + 1))) 61 14 ([some (Value.ref (67)), some (Value.int (nI (q + 1)))], [], (hp (M2) (J) (R) (c) (e) nL xs (D))) := by
        intro c e d M M0 M1 M2 hd hC h61 h0 a1 b1
        subst h0
        have h6 : M 67 59 = nI (mtk (Pt S)) := hC.2.2.1.2.2.1
        have h63 : M 67 63 = nI (Pn S) := hC.2.2.2.2.1
        have w := m_wr_n J R nL xs D c e (d := d + 1) (by omega) h61
        have w2 := m_wr_n J R nL xs D c e (d := d) (by omega) (M := px_uR M 98 (upd (M 98) (8 + q) (nI (Pn S)))) h61
        have h6' : px_uR M 98 (upd (M 98) (8 + q) (nI (Pn S))) 67 59 = nI (mtk (Pt S)) := h6
        have e8 : (8 : Int32) + nI q = nI (8 + q) := nI_add 8 q
        rw [eX12_reads_31, w]
        simp (disch := omega) only [px_bd_s, px_psh_s, px_psh_n, px_vb_s, px_ib_s, px_wb_s, px_bo_s, px_bo_n, Bool.cond_decide, cond_true, cond_false, ite_not, Bool.and_true, if_true, if_false, not_true_eq_false, not_false_eq_true, i10, eq_self, decide_true, decide_false, Bool.or_true, Bool.true_or, Bool.or_false, Bool.false_or, Bool.false_eq_true, eX12_reads_31_2, h6, mz10, t10, y6, eX12_reads_61, e8, px_inbT, nI_clamp, h63, xX12_need, eX12_need_0, w2, eX12_need_0_2, eX12_need_8, h6', eX12_need_23, a1, eX12_need_23_2, eX12_need_27, eX12_reads_61_12, zp1, b1]
      rcases XPo (nx T n S) nV.1 with ⟨S2, gg, xc, xm⟩ | ⟨b, hb3, xc, xm⟩
      · have gV := gg.1
        have s61 := gV.2.2.2.1
        by_cases t59 : Pt S2 = 59
        · have BV' := BV_s hB (by omega) gg
          have nV2 := (nx_V T gV).1
          have co : ∀ (d : Nat) (M : Nat → Nat → Int32), 51 ≤ d → CP 43 T n S M → CB 43 q pt M → ∃ M1, px_run (px_mk (kX5_readBars (px_ex px_tab (d)))) 2 ([some (Value.ref (37)), some (Value.int (nI q))], [], (hp (M) (J) (R) (38) (43) nL xs (D))) = px_run (px_mk (kX5_readBars (px_ex px_tab (d)))) 2 ([some (Value.ref (37)), some (Value.int (nI (q + 1)))], [], (hp (M1) (J) (R) (38) (43) nL xs (D))) ∧ CP 43 T n (nx T n S2) M1 ∧ CB 43 (q + 1) (ups' pt (q + 1) (Pn S2)) M1 ∧ CG 43 M M1 := by
            intro d M hd hC hb
            obtain ⟨M1, a1, a2, a3⟩ := c_nx_38 J R nL xs D (d := d) (by omega) v2 v3 hC
            obtain ⟨M2, b1, b2, b3⟩ := xc d M1 (by omega) a2
            have ab := a3.tr b3
            have q0 : M2 43 0 = nI q := by
              rw [ab.2.2 0 (by decide)]
              exact hb.1
            have q1 : M2 43 1 = nI (Pn S2) := b2.2.2.1
            have hM3 : CP 43 T n S2 (px_uR (px_uR M2 44 (upd (M2 44) q (nI (Pn S2)))) 43 (upd (M2 43) 0 (nI (q + 1)))) := b2
            obtain ⟨M4, d1, d2, d3⟩ := c_nx_38 J R nL xs D (d := d) (by omega) gV.2.1 gV.2.2.1 hM3
            obtain ⟨f, rfl⟩ : ∃ d', d = d' + 1 := ⟨d - 1, by omega⟩
            have eb : px_ex px_tab (f + 1) 41 [Value.ref (43)] (hp (M2) (J) (R) (38) (43) nL xs (D)) = some (none, (hp (px_uR (px_uR M2 44 (upd (M2 44) q (nI (Pn S2)))) 43 (upd (M2 43) 0 (nI (q + 1)))) (J) (R) (38) (43) nL xs (D))) := by
              rw [xX4_endBar, eX4_endBar_43_0, q0]
              simp (disch := omega) only [px_bd_s, px_psh_s, px_psh_n, px_vb_s, px_ib_s, px_wb_s, px_bo_s, px_bo_n, Bool.cond_decide, cond_true, cond_false, ite_not, Bool.and_true, if_true, if_false, not_true_eq_false, not_false_eq_true, i10, eq_self, decide_true, decide_false, Bool.or_true, Bool.true_or, Bool.or_false, Bool.false_or, Bool.false_eq_true, x6, px_inbT, nI_clamp, q1, zp1, eX4_endBar_43_32]
            refine ⟨M4, ?_, d2, ⟨?_, fun i hi => ?_⟩, ?_⟩
            · have h6' : M2 37 6 = nI (Pt S2) := b2.2.1.2.2.1
              rw [cs (f + 1) M M1 M2 1 hC a1 b1]
              simp (disch := omega) only [px_bd_s, px_psh_s, px_psh_n, px_vb_s, px_ib_s, px_wb_s, px_bo_s, px_bo_n, Bool.cond_decide, cond_true, cond_false, ite_not, Bool.and_true, if_true, if_false, not_true_eq_false, not_false_eq_true, i10, eq_self, decide_true, decide_false, Bool.or_true, Bool.true_or, Bool.or_false, Bool.false_or, Bool.false_eq_true, eX5_readBars_38_2_12, h6', zs59, t59, eX5_readBars_38_40, eb, eX5_readBars_38_40_3, d1, eX5_readBars_38_40_5, zp1]
            · rw [d3.2.2 0 (by decide)]
              show upd (M2 43) 0 (nI (q + 1)) 0 = nI (q + 1)
              exact pk_us
            · have e1 : M4 (43 + 1) = upd (M2 44) q (nI (Pn S2)) := d3.1.1 (43 + 1) (by decide) (by decide)
              rw [e1]
              by_cases ei : i = q
              · rw [ei, pk_us, ups'_s]
              · have e2 : M2 44 = M 44 := ab.1.1 44 (by decide) (by decide)
                rw [pk_un ei, ups'_n _ _ (by omega), e2]
                exact hb.2 i (by omega)
            · refine CG.tr (CG.tr ab.g ⟨((frm.rf [37, 43, 43 + 1, 43 + 2, 43 + 3] [] M2).u 44 (upd (M2 44) q (nI (Pn S2))) (by decide) (by decide)).u 43 (upd (M2 43) 0 (nI (q + 1))) (by decide) (by decide), fun k _ => rfl⟩) d3.g
          have mo : ∀ (c e d : Nat) (M : Nat → Nat → Int32), 41 ≤ d → MP T n S M → M 67 61 = -1 → M 67 62 = 0 → MB q pt M → ∃ M1, px_run (px_mk (kX12_reads (px_ex px_tab (d)))) 31 ([some (Value.ref (67)), some (Value.int (nI q))], [], (hp (M) (J) (R) (c) (e) nL xs (D))) = px_run (px_mk (kX12_reads (px_ex px_tab (d)))) 31 ([some (Value.ref (67)), some (Value.int (nI (q + 1)))], [], (hp (M1) (J) (R) (c) (e) nL xs (D))) ∧ MP T n (nx T n S2) M1 ∧ MB (q + 1) (ups' pt (q + 1) (Pn S2)) M1 ∧ MG M M1 ∧ M1 67 61 = -1 ∧ M1 67 62 = 0 := by
            intro c e d M hd hC h61 h62 hb
            obtain ⟨d, rfl⟩ : ∃ d', d = d' + 1 := ⟨d - 1, by omega⟩
            obtain ⟨p1, p2, p3⟩ := MP_pt hC hb (by omega) hB.2.2.1
            obtain ⟨M1, a1, a2, a3, a4, a5⟩ := m_nx J R nL xs D c e (d := d) (by omega) v2 v3 p1
            obtain ⟨M2, b1, b2, b3, b4, b5⟩ := xm c e (d + 1) M1 (by omega) a2 (a4.trans h61) (a5.trans h62)
            obtain ⟨M3, c1, c2, c3, c4, c5⟩ := m_nx J R nL xs D c e (d := d) (by omega) gV.2.1 gV.2.2.1 b2
            refine ⟨M3, ?_, c2, ?_, ((p3.tr a3.g).tr b3.g).tr c3.g, c4.trans b4, c5.trans b5⟩
            · have h6' : M2 67 59 = nI (mtk (Pt S2)) := b2.2.2.1.2.2.1
              have w2 := m_wr_n J R nL xs D c e (d := d) (by omega) b4
              rw [msn c e d M _ M1 M2 (by omega) hC h61 rfl a1 b1]
              simp (disch := omega) only [px_bd_s, px_psh_s, px_psh_n, px_vb_s, px_ib_s, px_wb_s, px_bo_s, px_bo_n, Bool.cond_decide, cond_true, cond_false, ite_not, Bool.and_true, if_true, if_false, not_true_eq_false, not_false_eq_true, i10, eq_self, decide_true, decide_false, Bool.or_true, Bool.true_or, Bool.or_false, Bool.false_or, Bool.false_eq_true, eX12_reads_61_14, xX12_need, eX12_need_0, w2, eX12_need_0_2, eX12_need_8, h6', mz59, t59, eX12_need_23, c1, eX12_need_23_2, eX12_need_27, eX12_reads_61_17]
            · have k := c3.b (b3.b (a3.b p2))
              intro i hi
              rw [ups'_n _ _ (by omega)]
              exact k i hi
          rcases ih (q + 1) (nx T n S2) (ups' pt (q + 1) (Pn S2)) (by omega) nV2 BV' with ⟨S', nb, pt', i1, i2, ic, im⟩ | ⟨b, hb3, ic, im⟩
          · refine Or.inl ⟨S', nb, pt', i1, i2, ?_, ?_⟩
            · intro d M hd hC hb
              obtain ⟨M1, a1, a2, a3, a4⟩ := co d M hd hC hb
              obtain ⟨M2, b1, b2, b3, b4⟩ := ic d M1 hd a2 a3
              exact ⟨M2, a1.trans b1, b2, b3, a4.tr b4⟩
            · intro c e d M hd hC h61 h62 hb
              obtain ⟨M1, a1, a2, a3, a4, a5, a6⟩ := mo c e d M hd hC h61 h62 hb
              obtain ⟨M2, b1, b2, b3, b4, b5⟩ := im c e d M1 hd a2 a5 a6 a3
              exact ⟨M2, a1.trans b1, b2, b3, a4.tr b4, b5⟩
          · refine Or.inr ⟨b, hb3, ?_, ?_⟩
            · intro d M hd hC hb
              obtain ⟨M1, a1, a2, a3, a4⟩ := co d M hd hC hb
              obtain ⟨M2, b1, b2, b3⟩ := ic d M1 hd a2 a3
              exact ⟨M2, a1.trans b1, b2, a4.tr b3⟩
            · intro c e d M hd hC h61 h62 hb
              obtain ⟨M1, a1, a2, a3, a4, a5, a6⟩ := mo c e d M hd hC h61 h62 hb
              obtain ⟨M2, w, b1, b2, b3⟩ := im c e d M1 hd a2 a5 a6 a3
              exact ⟨M2, w, a1.trans b1, a4.tr b2, b3⟩
        · have s2b : Pb S2 ≤ n := by have := gV.1; have := gV.2.1; omega
          refine Or.inr ⟨Pb S2, s2b, ?_, ?_⟩
          · intro d M hd hC hb
            obtain ⟨M1, a1, a2, a3⟩ := c_nx_38 J R nL xs D (d := d) (by omega) v2 v3 hC
            obtain ⟨M2, b1, b2, b3⟩ := xc d M1 (by omega) a2
            refine ⟨M2, ?_, b2.2.1.1, (a3.tr b3).g⟩
            have h6' : M2 37 6 = nI (Pt S2) := b2.2.1.2.2.1
            rw [cs d M M1 M2 1 hC a1 b1]
            simp (disch := omega) only [px_bd_s, px_psh_s, px_psh_n, px_vb_s, px_ib_s, px_wb_s, px_bo_s, px_bo_n, Bool.cond_decide, cond_true, cond_false, ite_not, Bool.and_true, if_true, if_false, not_true_eq_false, not_false_eq_true, i10, eq_self, decide_true, decide_false, Bool.or_true, Bool.true_or, Bool.or_false, Bool.false_or, Bool.false_eq_true, eX5_readBars_38_2_12, h6', zs59, t59, eX5_readBars_38_38]
          · intro c e d M hd hC h61 h62 hb
            obtain ⟨d, rfl⟩ : ∃ d', d = d' + 1 := ⟨d - 1, by omega⟩
            obtain ⟨p1, p2, p3⟩ := MP_pt hC hb (by omega) hB.2.2.1
            obtain ⟨M1, a1, a2, a3, a4, a5⟩ := m_nx J R nL xs D c e (d := d) (by omega) v2 v3 p1
            obtain ⟨M2, b1, b2, b3, b4, b5⟩ := xm c e (d + 1) M1 (by omega) a2 (a4.trans h61) (a5.trans h62)
            have c1 := m_can J R nL xs D c e (d := d) (by omega) b4 b2.2.2.1.1
            obtain ⟨M4, w4, d1, d2, d3⟩ := wend c e (q + 1) (d + 1) (Pb S2) (px_uR M2 67 (upd (M2 67) 61 (nI (Pb S2)))) (by omega) (by omega) (by omega) rfl
            refine ⟨M4, w4, ?_, (((p3.tr a3.g).tr b3.g).tr ((MF.rf M2).k 61 (by decide) (nI (Pb S2))).g).tr d2, d3⟩
            refine Eq.trans ?_ d1
            have h6' : M2 67 59 = nI (mtk (Pt S2)) := b2.2.2.1.2.2.1
            have w2 := m_wr_n J R nL xs D c e (d := d) (by omega) b4
            rw [msn c e d M _ M1 M2 (by omega) hC h61 rfl a1 b1]
            simp (disch := omega) only [px_bd_s, px_psh_s, px_psh_n, px_vb_s, px_ib_s, px_wb_s, px_bo_s, px_bo_n, Bool.cond_decide, cond_true, cond_false, ite_not, Bool.and_true, if_true, if_false, not_true_eq_false, not_false_eq_true, i10, eq_self, decide_true, decide_false, Bool.or_true, Bool.true_or, Bool.or_false, Bool.false_or, Bool.false_eq_true, eX12_reads_61_14, xX12_need, eX12_need_0, w2, eX12_need_0_2, eX12_need_8, h6', mz59, t59, c1, eX12_need_8_6, eX12_need_27, eX12_reads_61_17]
      · refine Or.inr ⟨b, hb3, ?_, ?_⟩
        · intro d M hd hC hb
          obtain ⟨M1, a1, a2, a3⟩ := c_nx_38 J R nL xs D (d := d) (by omega) v2 v3 hC
          obtain ⟨M2, b1, b2, b3⟩ := xc d M1 (by omega) a2
          refine ⟨M2, ?_, b2.2.1, (a3.tr b3).g⟩
          rw [cs d M M1 M2 0 hC a1 b1]
          simp (disch := omega) only [px_bd_s, px_psh_s, px_psh_n, px_vb_s, px_ib_s, px_wb_s, px_bo_s, px_bo_n, Bool.cond_decide, cond_true, cond_false, ite_not, Bool.and_true, if_true, if_false, not_true_eq_false, not_false_eq_true, i10, eq_self, decide_true, decide_false, Bool.or_true, Bool.true_or, Bool.or_false, Bool.false_or, Bool.false_eq_true, eX5_readBars_38_2_12, eX5_readBars_38_38]
        · intro c e d M hd hC h61 h62 hb
          obtain ⟨d, rfl⟩ : ∃ d', d = d' + 1 := ⟨d - 1, by omega⟩
          obtain ⟨p1, p2, p3⟩ := MP_pt hC hb (by omega) hB.2.2.1
          obtain ⟨M1, a1, a2, a3, a4, a5⟩ := m_nx J R nL xs D c e (d := d) (by omega) v2 v3 p1
          obtain ⟨M2, N, b1, b2, b2', b3, b4, b5⟩ := xm c e (d + 1) M1 (by omega) a2 (a4.trans h61) (a5.trans h62)
          have nw := m_need_w J R nL xs D c e (d := d + 1) (by omega) (show b ≤ 160 by omega) b4 59
          obtain ⟨M4, w4, d1, d2, d3⟩ := wend c e (q + 1) (d + 1) b M2 (by omega) (by omega) (by omega) b4
          refine ⟨M4, w4, ?_, ((p3.tr a3.g).tr b3.g).tr d2, d3⟩
          refine Eq.trans ?_ d1
          rw [msn c e d M _ M1 M2 (by omega) hC h61 rfl a1 b1]
          simp (disch := omega) only [px_bd_s, px_psh_s, px_psh_n, px_vb_s, px_ib_s, px_wb_s, px_bo_s, px_bo_n, Bool.cond_decide, cond_true, cond_false, ite_not, Bool.and_true, if_true, if_false, not_true_eq_false, not_false_eq_true, i10, eq_self, decide_true, decide_false, Bool.or_true, Bool.true_or, Bool.or_false, Bool.false_or, Bool.false_eq_true, eX12_reads_61_14, nw, eX12_reads_61_17]
    · by_cases t0 : Pt S = 0
      · refine Or.inl ⟨S, q, pt, hV, hB, ?_, ?_⟩
        · intro d M hd hC hb
          refine ⟨M, ?_, hC, hb, frm.rf _ _ _, fun _ _ => rfl⟩
          have h6 : M 37 6 = nI (Pt S) := hC.2.1.2.2.1
          rw [eX5_readBars_38_2]
          simp (disch := omega) only [px_bd_s, px_psh_s, px_psh_n, px_vb_s, px_ib_s, px_wb_s, px_bo_s, px_bo_n, Bool.cond_decide, cond_true, cond_false, ite_not, Bool.and_true, if_true, if_false, not_true_eq_false, not_false_eq_true, i10, eq_self, decide_true, decide_false, Bool.or_true, Bool.true_or, Bool.or_false, Bool.false_or, Bool.false_eq_true, x6, h6, zs10, t10, eX5_readBars_38_57, zs0, t0, show ¬ (0 : Nat) = 10 from by decide, eX5_readBars_38_69]
        · intro c e d M hd hC h61 h62 hb
          obtain ⟨d, rfl⟩ : ∃ d', d = d' + 1 := ⟨d - 1, by omega⟩
          obtain ⟨p1, p2, p3⟩ := MP_pt hC hb (by omega) hB.2.2.1
          obtain ⟨M1, a1, a2, a3, a4, a5⟩ := m_nx J R nL xs D c e (d := d) (by omega) v2 v3 p1
          refine ⟨M1, ?_, ⟨a2.2.2.2.2.1, a2.2.2.2.2.2⟩, a3.b p2, p3.tr a3.g, a4.trans h61⟩
          have h6 : M 67 59 = nI (mtk (Pt S)) := hC.2.2.1.2.2.1
          have h63 : M 67 63 = nI (Pn S) := hC.2.2.2.2.1
          have w := m_wr_n J R nL xs D c e (d := d + 1) (by omega) h61
          have w2 := m_wr_n J R nL xs D c e (d := d) (by omega) (M := px_uR M 98 (upd (M 98) (8 + q) (nI (Pn S)))) h61
          have h6' : px_uR M 98 (upd (M 98) (8 + q) (nI (Pn S))) 67 59 = nI (mtk (Pt S)) := h6
          have e8 : (8 : Int32) + nI q = nI (8 + q) := nI_add 8 q
          rw [eX12_reads_31, w]
          simp (disch := omega) only [px_bd_s, px_psh_s, px_psh_n, px_vb_s, px_ib_s, px_wb_s, px_bo_s, px_bo_n, Bool.cond_decide, cond_true, cond_false, ite_not, Bool.and_true, if_true, if_false, not_true_eq_false, not_false_eq_true, i10, eq_self, decide_true, decide_false, Bool.or_true, Bool.true_or, Bool.or_false, Bool.false_or, Bool.false_eq_true, eX12_reads_31_2, h6, mz10, t0, show ¬ (0 : Nat) = 10 from by decide, eX12_reads_97, e8, px_inbT, nI_clamp, h63, xX12_need, eX12_need_0, w2, eX12_need_0_2, eX12_need_8, h6', mz0, eX12_need_23, a1, eX12_need_23_2, eX12_need_27, eX12_reads_97_11]
      · refine Or.inr ⟨Pb S, by omega, ?_, ?_⟩
        · intro d M hd hC hb
          refine ⟨M, ?_, hC.2.1.1, frm.rf _ _ _, fun _ _ => rfl⟩
          have h6 : M 37 6 = nI (Pt S) := hC.2.1.2.2.1
          rw [eX5_readBars_38_2]
          simp (disch := omega) only [px_bd_s, px_psh_s, px_psh_n, px_vb_s, px_ib_s, px_wb_s, px_bo_s, px_bo_n, Bool.cond_decide, cond_true, cond_false, ite_not, Bool.and_true, if_true, if_false, not_true_eq_false, not_false_eq_true, i10, eq_self, decide_true, decide_false, Bool.or_true, Bool.true_or, Bool.or_false, Bool.false_or, Bool.false_eq_true, x6, h6, zs10, t10, eX5_readBars_38_57, zs0, t0, eX5_readBars_38_68, eX5_readBars_38_69]
        · intro c e d M hd hC h61 h62 hb
          obtain ⟨d, rfl⟩ : ∃ d', d = d' + 1 := ⟨d - 1, by omega⟩
          have h6 : M 67 59 = nI (mtk (Pt S)) := hC.2.2.1.2.2.1
          have w := m_wr_n J R nL xs D c e (d := d + 1) (by omega) h61
          obtain ⟨p1, p2, p3⟩ := MP_pt hC hb (by omega) hB.2.2.1
          have c1 := m_can J R nL xs D c e (d := d) (by omega) (M := px_uR M 98 (upd (M 98) (8 + q) (nI (Pn S)))) h61 p1.2.2.1.1
          refine ⟨px_uR (px_uR M 98 (upd (M 98) (8 + q) (nI (Pn S)))) 67 (upd (M 67) 61 (nI (Pb S))), nI q, ?_, p3.tr ((MF.rf _).k 61 (by decide) _).g, rfl⟩
          have h63 : M 67 63 = nI (Pn S) := hC.2.2.2.2.1
          have w2 := m_wr_n J R nL xs D c e (d := d) (by omega) (M := px_uR M 98 (upd (M 98) (8 + q) (nI (Pn S)))) h61
          have h6' : px_uR M 98 (upd (M 98) (8 + q) (nI (Pn S))) 67 59 = nI (mtk (Pt S)) := h6
          have e8 : (8 : Int32) + nI q = nI (8 + q) := nI_add 8 q
          rw [eX12_reads_31, w]
          simp (disch := omega) only [px_bd_s, px_psh_s, px_psh_n, px_vb_s, px_ib_s, px_wb_s, px_bo_s, px_bo_n, Bool.cond_decide, cond_true, cond_false, ite_not, Bool.and_true, if_true, if_false, not_true_eq_false, not_false_eq_true, i10, eq_self, decide_true, decide_false, Bool.or_true, Bool.true_or, Bool.or_false, Bool.false_or, Bool.false_eq_true, eX12_reads_31_2, h6, mz10, t10, eX12_reads_97, e8, px_inbT, nI_clamp, h63, xX12_need, eX12_need_0, w2, eX12_need_0_2, eX12_need_8, h6', mz0, t0, c1, eX12_need_8_6, eX12_need_27, eX12_reads_97_11]
          rfl
theorem r_bars_43 {T : Nat → Nat} {n : Nat} (hn : n ≤ 160) : ∀ (g q : Nat) (S : PS) (pt : Nat → Nat), q + g = 6 → PV n S → BV S q pt → (∃ S' nb pt', PV n S' ∧ BV S' nb pt' ∧ (∀ d M, 51 ≤ d → CP 38 T n S M → CB 38 q pt M → ∃ M1, px_run (px_mk (kX5_readBars (px_ex px_tab (d)))) 2 ([some (Value.ref (37)), some (Value.int (nI q))], [], (hp (M) (J) (R) (43) (38) nL xs (D))) = some (some (Value.int (1)), (hp (M1) (J) (R) (43) (38) nL xs (D))) ∧ CP 38 T n S' M1 ∧ CB 38 nb pt' M1 ∧ CG 38 M M1) ∧ (∀ c e d M, 41 ≤ d → MP T n S M → M 67 61 = -1 → M 67 62 = 0 → MB q pt M → ∃ M1, px_run (px_mk (kX12_reads (px_ex px_tab (d)))) 31 ([some (Value.ref (67)), some (Value.int (nI q))], [], (hp (M) (J) (R) (c) (e) nL xs (D))) = some (some (Value.int (nI nb)), (hp (M1) (J) (R) (c) (e) nL xs (D))) ∧ MQs S' M1 ∧ MB (nb + 1) pt' M1 ∧ MG M M1 ∧ M1 67 61 = -1)) ∨ (∃ b, b ≤ n ∧ (∀ d M, 51 ≤ d → CP 38 T n S M → CB 38 q pt M → ∃ M1, px_run (px_mk (kX5_readBars (px_ex px_tab (d)))) 2 ([some (Value.ref (37)), some (Value.int (nI q))], [], (hp (M) (J) (R) (43) (38) nL xs (D))) = some (some (Value.int (0)), (hp (M1) (J) (R) (43) (38) nL xs (D))) ∧ M1 37 4 = nI b ∧ CG 38 M M1) ∧ (∀ c e d M, 41 ≤ d → MP T n S M → M 67 61 = -1 → M 67 62 = 0 → MB q pt M → ∃ M1 w, px_run (px_mk (kX12_reads (px_ex px_tab (d)))) 31 ([some (Value.ref (67)), some (Value.int (nI q))], [], (hp (M) (J) (R) (c) (e) nL xs (D))) = some (some (Value.int (w)), (hp (M1) (J) (R) (c) (e) nL xs (D))) ∧ MG M M1 ∧ M1 67 61 = nI b)) := by
  have wend : ∀ (c e q : Nat) (d b : Nat) (M : Nat → Nat → Int32), q ≤ 6 → b ≤ 160 → 2 ≤ d → M 67 61 = nI b → ∃ M1 w, px_run (px_mk (kX12_reads (px_ex px_tab (d)))) 31 ([some (Value.ref (67)), some (Value.int (nI q))], [], (hp (M) (J) (R) (c) (e) nL xs (D))) = some (some (Value.int (w)), (hp (M1) (J) (R) (c) (e) nL xs (D))) ∧ MG M M1 ∧ M1 67 61 = nI b := by
    intro c e q d b M hq hb hd h61
    have w := m_wr_y J R nL xs D c e (d := d) (by omega) hb h61
    have nw := m_need_w J R nL xs D c e (d := d) hd hb (M := px_uR M 98 (upd (M 98) (8 + q) (M 67 63))) h61 0
    have e8 : (8 : Int32) + nI q = nI (8 + q) := nI_add 8 q
    refine ⟨px_uR M 98 (upd (M 98) (8 + q) (M 67 63)), nI q, ?_, ⟨(frm.rf _ _ _).u 98 _ (by decide) (by decide), fun _ _ => ⟨rfl, rfl⟩, fun i hi => ?_⟩, h61⟩
    · rw [eX12_reads_31, w]
      simp (disch := omega) only [px_bd_s, px_psh_s, px_psh_n, px_vb_s, px_ib_s, px_wb_s, px_bo_s, px_bo_n, Bool.cond_decide, cond_true, cond_false, ite_not, Bool.and_true, if_true, if_false, not_true_eq_false, not_false_eq_true, i10, eq_self, decide_true, decide_false, Bool.or_true, Bool.true_or, Bool.or_false, Bool.false_or, Bool.false_eq_true, eX12_reads_31_2, eX12_reads_97, e8, px_inbT, nI_clamp, nw, eX12_reads_97_11]
    · show upd (M 98) (8 + q) (M 67 63) i = M 98 i
      rw [pk_un (by omega)]
  intro g
  induction g with
  | zero =>
    intro q S pt hg hV hB
    obtain ⟨v1, v2, v3, t61, v5, v6, v7⟩ := id hV
    have q6 : q = 6 := by omega
    subst q6
    by_cases t0 : Pt S = 0
    · refine Or.inl ⟨S, 6, pt, hV, hB, ?_, ?_⟩
      · intro d M hd hC hb
        refine ⟨M, ?_, hC, hb, frm.rf _ _ _, fun _ _ => rfl⟩
        have h6 : M 37 6 = nI (Pt S) := hC.2.1.2.2.1
        rw [eX5_readBars_43_2]
        simp (disch := omega) only [px_bd_s, px_psh_s, px_psh_n, px_vb_s, px_ib_s, px_wb_s, px_bo_s, px_bo_n, Bool.cond_decide, cond_true, cond_false, ite_not, Bool.and_true, if_true, if_false, not_true_eq_false, not_false_eq_true, i10, eq_self, decide_true, decide_false, Bool.or_true, Bool.true_or, Bool.or_false, Bool.false_or, Bool.false_eq_true, show (6 : Int32) ≤ nI 6 from by decide, eX5_readBars_43_57, h6, zs0, t0, eX5_readBars_43_69]
      · intro c e d M hd hC h61 h62 hb
        obtain ⟨d, rfl⟩ : ∃ d', d = d' + 1 := ⟨d - 1, by omega⟩
        obtain ⟨p1, p2, p3⟩ := MP_pt hC hb (Nat.le_refl _) hB.2.2.1
        obtain ⟨M1, a1, a2, a3, a4, a5⟩ := m_nx J R nL xs D c e (d := d) (by omega) v2 v3 p1
        refine ⟨M1, ?_, ⟨a2.2.2.2.2.1, a2.2.2.2.2.2⟩, a3.b p2, p3.tr a3.g, a4.trans h61⟩
        have h6 : M 67 59 = nI (mtk (Pt S)) := hC.2.2.1.2.2.1
        have h63 : M 67 63 = nI (Pn S) := hC.2.2.2.2.1
        have w := m_wr_n J R nL xs D c e (d := d + 1) (by omega) h61
        have w2 := m_wr_n J R nL xs D c e (d := d) (by omega) (M := px_uR M 98 (upd (M 98) (8 + 6) (nI (Pn S)))) h61
        have h6' : px_uR M 98 (upd (M 98) (8 + 6) (nI (Pn S))) 67 59 = nI (mtk (Pt S)) := h6
        have e8 : (8 : Int32) + nI 6 = nI (8 + 6) := nI_add 8 6
        rw [eX12_reads_31, w]
        simp (disch := omega) only [px_bd_s, px_psh_s, px_psh_n, px_vb_s, px_ib_s, px_wb_s, px_bo_s, px_bo_n, Bool.cond_decide, cond_true, cond_false, ite_not, Bool.and_true, if_true, if_false, not_true_eq_false, not_false_eq_true, i10, eq_self, decide_true, decide_false, Bool.or_true, Bool.true_or, Bool.or_false, Bool.false_or, Bool.false_eq_true, eX12_reads_31_2, h6, mz10, t0, show ¬ (0 : Nat) = 10 from by decide, eX12_reads_97, e8, px_inbT, nI_clamp, h63, xX12_need, eX12_need_0, w2, eX12_need_0_2, eX12_need_8, h6', mz0, eX12_need_23, a1, eX12_need_23_2, eX12_need_27, eX12_reads_97_11]
    · refine Or.inr ⟨Pb S, by omega, ?_, ?_⟩
      · intro d M hd hC hb
        refine ⟨M, ?_, hC.2.1.1, frm.rf _ _ _, fun _ _ => rfl⟩
        have h6 : M 37 6 = nI (Pt S) := hC.2.1.2.2.1
        rw [eX5_readBars_43_2]
        simp (disch := omega) only [px_bd_s, px_psh_s, px_psh_n, px_vb_s, px_ib_s, px_wb_s, px_bo_s, px_bo_n, Bool.cond_decide, cond_true, cond_false, ite_not, Bool.and_true, if_true, if_false, not_true_eq_false, not_false_eq_true, i10, eq_self, decide_true, decide_false, Bool.or_true, Bool.true_or, Bool.or_false, Bool.false_or, Bool.false_eq_true, show (6 : Int32) ≤ nI 6 from by decide, eX5_readBars_43_57, h6, zs0, t0, eX5_readBars_43_68, eX5_readBars_43_69]
      · intro c e d M hd hC h61 h62 hb
        obtain ⟨d, rfl⟩ : ∃ d', d = d' + 1 := ⟨d - 1, by omega⟩
        have h6 : M 67 59 = nI (mtk (Pt S)) := hC.2.2.1.2.2.1
        have w := m_wr_n J R nL xs D c e (d := d + 1) (by omega) h61
        by_cases t10 : Pt S = 10
        · have c1 := m_can J R nL xs D c e (d := d + 1) (by omega) h61 hC.2.2.1.1
          obtain ⟨M1, w1, a1, a2, a3⟩ := wend c e 6 (d + 1) (Pb S) (px_uR M 67 (upd (M 67) 61 (nI (Pb S)))) (by omega) (by omega) (by omega) rfl
          refine ⟨M1, w1, ?_, (((MF.rf M).k 61 (by decide) _).g).tr a2, a3⟩
          refine Eq.trans ?_ a1
          rw [eX12_reads_31, w]
          simp (disch := omega) only [px_bd_s, px_psh_s, px_psh_n, px_vb_s, px_ib_s, px_wb_s, px_bo_s, px_bo_n, Bool.cond_decide, cond_true, cond_false, ite_not, Bool.and_true, if_true, if_false, not_true_eq_false, not_false_eq_true, i10, eq_self, decide_true, decide_false, Bool.or_true, Bool.true_or, Bool.or_false, Bool.false_or, Bool.false_eq_true, eX12_reads_31_2, h6, mz10, t10, show nI 6 = 6 from rfl, c1, eX12_reads_31_12]
        · obtain ⟨p1, p2, p3⟩ := MP_pt hC hb (Nat.le_refl _) hB.2.2.1
          have c1 := m_can J R nL xs D c e (d := d) (by omega) (M := px_uR M 98 (upd (M 98) (8 + 6) (nI (Pn S)))) h61 p1.2.2.1.1
          refine ⟨px_uR (px_uR M 98 (upd (M 98) (8 + 6) (nI (Pn S)))) 67 (upd (M 67) 61 (nI (Pb S))), nI 6, ?_, p3.tr ((MF.rf _).k 61 (by decide) _).g, rfl⟩
          have h63 : M 67 63 = nI (Pn S) := hC.2.2.2.2.1
          have w2 := m_wr_n J R nL xs D c e (d := d) (by omega) (M := px_uR M 98 (upd (M 98) (8 + 6) (nI (Pn S)))) h61
          have h6' : px_uR M 98 (upd (M 98) (8 + 6) (nI (Pn S))) 67 59 = nI (mtk (Pt S)) := h6
          have e8 : (8 : Int32) + nI 6 = nI (8 + 6) := nI_add 8 6
          rw [eX12_reads_31, w]
          simp (disch := omega) only [px_bd_s, px_psh_s, px_psh_n, px_vb_s, px_ib_s, px_wb_s, px_bo_s, px_bo_n, Bool.cond_decide, cond_true, cond_false, ite_not, Bool.and_true, if_true, if_false, not_true_eq_false, not_false_eq_true, i10, eq_self, decide_true, decide_false, Bool.or_true, Bool.true_or, Bool.or_false, Bool.false_or, Bool.false_eq_true, eX12_reads_31_2, h6, mz10, t10, eX12_reads_97, e8, px_inbT, nI_clamp, h63, xX12_need, eX12_need_0, w2, eX12_need_0_2, eX12_need_8, h6', mz0, t0, c1, eX12_need_8_6, eX12_need_27, eX12_reads_97_11]
          rfl
  | succ g ih =>
    intro q S pt hg hV hB
    obtain ⟨v1, v2, v3, t61, v5, v6, v7⟩ := id hV
    have x6 : ¬ (6 : Int32) ≤ nI q := fun z => by
      have := (nI_leI (a := 6) (by decide) (by omega)).mp z
      omega
    have y6 : ¬ nI q = 6 := fun z => by
      have := (nI_eq (b := 6) (by omega) (by decide)).mp z
      omega
    by_cases t10 : Pt S = 10
    · have hb2 := v5 (by omega)
      have nV := nx_V T hV
      have XPo := (p_lev_43 J R nL xs D hn (T := T) 5 0 rfl).2.2
      have cs : ∀ (d : Nat) (M M1 M2 : Nat → Nat → Int32) (w : Int32), CP 38 T n S M → px_ex px_tab (d) 61 [Value.ref (37)] (hp (M) (J) (R) (43) (38) nL xs (D)) = some (none, (hp (M1) (J) (R) (43) (38) nL xs (D))) → px_ex px_tab (d) 52 [Value.ref (37), Value.int (nI 0)] (hp (M1) (J) (R) (43) (38) nL xs (D)) = some (some (Value.int (w)), (hp (M2) (J) (R) (43) (38) nL xs (D))) → px_run (px_mk (kX5_readBars (px_ex px_tab (d)))) 2 ([some (Value.ref (37)), some (Value.int (nI q))], [], (hp (M) (J) (R) (43) (38) nL xs (D))) = px_p (kX5_readBars (px_ex px_tab (d))) 2 12 ([some (Value.ref (37)), some (Value.int (nI q))], [Value.int (w)], (hp (M2) (J) (R) (43) (38) nL xs (D))) := by
        intro d M M1 M2 w hC a1 b1
        have b1' : px_ex px_tab (d) 52 [Value.ref (37), Value.int (0)] (hp (M1) (J) (R) (43) (38) nL xs (D)) = some (some (Value.int (w)), (hp (M2) (J) (R) (43) (38) nL xs (D))) := b1
        have h6 : M 37 6 = nI (Pt S) := hC.2.1.2.2.1
        rw [eX5_readBars_43_2]
        simp (disch := omega) only [px_bd_s, px_psh_s, px_psh_n, px_vb_s, px_ib_s, px_wb_s, px_bo_s, px_bo_n, Bool.cond_decide, cond_true, cond_false, ite_not, Bool.and_true, if_true, if_false, not_true_eq_false, not_false_eq_true, i10, eq_self, decide_true, decide_false, Bool.or_true, Bool.true_or, Bool.or_false, Bool.false_or, Bool.false_eq_true, x6, h6, zs10, t10, a1, eX5_readBars_43_2_9, b1']
      have msn : ∀ (c e d : Nat) (M M0 M1 M2 : Nat → Nat → Int32), 4 ≤ d → MP T n S M → M 67 61 = -1 → M0 = px_uR M 98 (upd (M 98) (8 + q) (nI (Pn S))) → px_ex px_tab (d) 211 [Value.ref (67)] (hp (M0) (J) (R) (c) (e) nL xs (D)) = some (none, (hp (M1) (J) (R) (c) (e) nL xs (D))) → px_ex px_tab (d + 1) 220 [Value.ref (67)] (hp (M1) (J) (R) (c) (e) nL xs (D)) = some (none, (hp (M2) (J) (R) (c) (e) nL xs (D))) → px_run (px_mk (kX12_reads (px_ex px_tab (d + 1)))) 31 ([some (Value.ref (67)), some (Value.int (nI q))], [], (hp (M) (J) (R) (c) (e) nL xs (D))) = px_p (kX12_reads (px_ex px_tab (d + 1))) 61 14 ([some (Value.ref (67)), some (Value.int (nI (q + 1)))], [], (hp (M2) (J) (R) (c) (e) nL xs (D))) := by
        intro c e d M M0 M1 M2 hd hC h61 h0 a1 b1
        subst h0
        have h6 : M 67 59 = nI (mtk (Pt S)) := hC.2.2.1.2.2.1
        have h63 : M 67 63 = nI (Pn S) := hC.2.2.2.2.1
        have w := m_wr_n J R nL xs D c e (d := d + 1) (by omega) h61
        have w2 := m_wr_n J R nL xs D c e (d := d) (by omega) (M := px_uR M 98 (upd (M 98) (8 + q) (nI (Pn S)))) h61
        have h6' : px_uR M 98 (upd (M 98) (8 + q) (nI (Pn S))) 67 59 = nI (mtk (Pt S)) := h6
        have e8 : (8 : Int32) + nI q = nI (8 + q) := nI_add 8 q
        rw [eX12_reads_31, w]
        simp (disch := omega) only [px_bd_s, px_psh_s, px_psh_n, px_vb_s, px_ib_s, px_wb_s, px_bo_s, px_bo_n, Bool.cond_decide, cond_true, cond_false, ite_not, Bool.and_true, if_true, if_false, not_true_eq_false, not_false_eq_true, i10, eq_self, decide_true, decide_false, Bool.or_true, Bool.true_or, Bool.or_false, Bool.false_or, Bool.false_eq_true, eX12_reads_31_2, h6, mz10, t10, y6, eX12_reads_61, e8, px_inbT, nI_clamp, h63, xX12_need, eX12_need_0, w2, eX12_need_0_2, eX12_need_8, h6', eX12_need_23, a1, eX12_need_23_2, eX12_need_27, eX12_reads_61_12, zp1, b1]
      rcases XPo (nx T n S) nV.1 with ⟨S2, gg, xc, xm⟩ | ⟨b, hb3, xc, xm⟩
      · have gV := gg.1
        have s61 := gV.2.2.2.1
        by_cases t59 : Pt S2 = 59
        · have BV' := BV_s hB (by omega) gg
          have nV2 := (nx_V T gV).1
          have co : ∀ (d : Nat) (M : Nat → Nat → Int32), 51 ≤ d → CP 38 T n S M → CB 38 q pt M → ∃ M1, px_run (px_mk (kX5_readBars (px_ex px_tab (d)))) 2 ([some (Value.ref (37)), some (Value.int (nI q))], [], (hp (M) (J) (R) (43) (38) nL xs (D))) = px_run (px_mk (kX5_readBars (px_ex px_tab (d)))) 2 ([some (Value.ref (37)), some (Value.int (nI (q + 1)))], [], (hp (M1) (J) (R) (43) (38) nL xs (D))) ∧ CP 38 T n (nx T n S2) M1 ∧ CB 38 (q + 1) (ups' pt (q + 1) (Pn S2)) M1 ∧ CG 38 M M1 := by
            intro d M hd hC hb
            obtain ⟨M1, a1, a2, a3⟩ := c_nx_43 J R nL xs D (d := d) (by omega) v2 v3 hC
            obtain ⟨M2, b1, b2, b3⟩ := xc d M1 (by omega) a2
            have ab := a3.tr b3
            have q0 : M2 38 0 = nI q := by
              rw [ab.2.2 0 (by decide)]
              exact hb.1
            have q1 : M2 38 1 = nI (Pn S2) := b2.2.2.1
            have hM3 : CP 38 T n S2 (px_uR (px_uR M2 39 (upd (M2 39) q (nI (Pn S2)))) 38 (upd (M2 38) 0 (nI (q + 1)))) := b2
            obtain ⟨M4, d1, d2, d3⟩ := c_nx_43 J R nL xs D (d := d) (by omega) gV.2.1 gV.2.2.1 hM3
            obtain ⟨f, rfl⟩ : ∃ d', d = d' + 1 := ⟨d - 1, by omega⟩
            have eb : px_ex px_tab (f + 1) 41 [Value.ref (38)] (hp (M2) (J) (R) (43) (38) nL xs (D)) = some (none, (hp (px_uR (px_uR M2 39 (upd (M2 39) q (nI (Pn S2)))) 38 (upd (M2 38) 0 (nI (q + 1)))) (J) (R) (43) (38) nL xs (D))) := by
              rw [xX4_endBar, eX4_endBar_38_0, q0]
              simp (disch := omega) only [px_bd_s, px_psh_s, px_psh_n, px_vb_s, px_ib_s, px_wb_s, px_bo_s, px_bo_n, Bool.cond_decide, cond_true, cond_false, ite_not, Bool.and_true, if_true, if_false, not_true_eq_false, not_false_eq_true, i10, eq_self, decide_true, decide_false, Bool.or_true, Bool.true_or, Bool.or_false, Bool.false_or, Bool.false_eq_true, x6, px_inbT, nI_clamp, q1, zp1, eX4_endBar_38_32]
            refine ⟨M4, ?_, d2, ⟨?_, fun i hi => ?_⟩, ?_⟩
            · have h6' : M2 37 6 = nI (Pt S2) := b2.2.1.2.2.1
              rw [cs (f + 1) M M1 M2 1 hC a1 b1]
              simp (disch := omega) only [px_bd_s, px_psh_s, px_psh_n, px_vb_s, px_ib_s, px_wb_s, px_bo_s, px_bo_n, Bool.cond_decide, cond_true, cond_false, ite_not, Bool.and_true, if_true, if_false, not_true_eq_false, not_false_eq_true, i10, eq_self, decide_true, decide_false, Bool.or_true, Bool.true_or, Bool.or_false, Bool.false_or, Bool.false_eq_true, eX5_readBars_43_2_12, h6', zs59, t59, eX5_readBars_43_40, eb, eX5_readBars_43_40_3, d1, eX5_readBars_43_40_5, zp1]
            · rw [d3.2.2 0 (by decide)]
              show upd (M2 38) 0 (nI (q + 1)) 0 = nI (q + 1)
              exact pk_us
            · have e1 : M4 (38 + 1) = upd (M2 39) q (nI (Pn S2)) := d3.1.1 (38 + 1) (by decide) (by decide)
              rw [e1]
              by_cases ei : i = q
              · rw [ei, pk_us, ups'_s]
              · have e2 : M2 39 = M 39 := ab.1.1 39 (by decide) (by decide)
                rw [pk_un ei, ups'_n _ _ (by omega), e2]
                exact hb.2 i (by omega)
            · refine CG.tr (CG.tr ab.g ⟨((frm.rf [37, 38, 38 + 1, 38 + 2, 38 + 3] [] M2).u 39 (upd (M2 39) q (nI (Pn S2))) (by decide) (by decide)).u 38 (upd (M2 38) 0 (nI (q + 1))) (by decide) (by decide), fun k _ => rfl⟩) d3.g
          have mo : ∀ (c e d : Nat) (M : Nat → Nat → Int32), 41 ≤ d → MP T n S M → M 67 61 = -1 → M 67 62 = 0 → MB q pt M → ∃ M1, px_run (px_mk (kX12_reads (px_ex px_tab (d)))) 31 ([some (Value.ref (67)), some (Value.int (nI q))], [], (hp (M) (J) (R) (c) (e) nL xs (D))) = px_run (px_mk (kX12_reads (px_ex px_tab (d)))) 31 ([some (Value.ref (67)), some (Value.int (nI (q + 1)))], [], (hp (M1) (J) (R) (c) (e) nL xs (D))) ∧ MP T n (nx T n S2) M1 ∧ MB (q + 1) (ups' pt (q + 1) (Pn S2)) M1 ∧ MG M M1 ∧ M1 67 61 = -1 ∧ M1 67 62 = 0 := by
            intro c e d M hd hC h61 h62 hb
            obtain ⟨d, rfl⟩ : ∃ d', d = d' + 1 := ⟨d - 1, by omega⟩
            obtain ⟨p1, p2, p3⟩ := MP_pt hC hb (by omega) hB.2.2.1
            obtain ⟨M1, a1, a2, a3, a4, a5⟩ := m_nx J R nL xs D c e (d := d) (by omega) v2 v3 p1
            obtain ⟨M2, b1, b2, b3, b4, b5⟩ := xm c e (d + 1) M1 (by omega) a2 (a4.trans h61) (a5.trans h62)
            obtain ⟨M3, c1, c2, c3, c4, c5⟩ := m_nx J R nL xs D c e (d := d) (by omega) gV.2.1 gV.2.2.1 b2
            refine ⟨M3, ?_, c2, ?_, ((p3.tr a3.g).tr b3.g).tr c3.g, c4.trans b4, c5.trans b5⟩
            · have h6' : M2 67 59 = nI (mtk (Pt S2)) := b2.2.2.1.2.2.1
              have w2 := m_wr_n J R nL xs D c e (d := d) (by omega) b4
              rw [msn c e d M _ M1 M2 (by omega) hC h61 rfl a1 b1]
              simp (disch := omega) only [px_bd_s, px_psh_s, px_psh_n, px_vb_s, px_ib_s, px_wb_s, px_bo_s, px_bo_n, Bool.cond_decide, cond_true, cond_false, ite_not, Bool.and_true, if_true, if_false, not_true_eq_false, not_false_eq_true, i10, eq_self, decide_true, decide_false, Bool.or_true, Bool.true_or, Bool.or_false, Bool.false_or, Bool.false_eq_true, eX12_reads_61_14, xX12_need, eX12_need_0, w2, eX12_need_0_2, eX12_need_8, h6', mz59, t59, eX12_need_23, c1, eX12_need_23_2, eX12_need_27, eX12_reads_61_17]
            · have k := c3.b (b3.b (a3.b p2))
              intro i hi
              rw [ups'_n _ _ (by omega)]
              exact k i hi
          rcases ih (q + 1) (nx T n S2) (ups' pt (q + 1) (Pn S2)) (by omega) nV2 BV' with ⟨S', nb, pt', i1, i2, ic, im⟩ | ⟨b, hb3, ic, im⟩
          · refine Or.inl ⟨S', nb, pt', i1, i2, ?_, ?_⟩
            · intro d M hd hC hb
              obtain ⟨M1, a1, a2, a3, a4⟩ := co d M hd hC hb
              obtain ⟨M2, b1, b2, b3, b4⟩ := ic d M1 hd a2 a3
              exact ⟨M2, a1.trans b1, b2, b3, a4.tr b4⟩
            · intro c e d M hd hC h61 h62 hb
              obtain ⟨M1, a1, a2, a3, a4, a5, a6⟩ := mo c e d M hd hC h61 h62 hb
              obtain ⟨M2, b1, b2, b3, b4, b5⟩ := im c e d M1 hd a2 a5 a6 a3
              exact ⟨M2, a1.trans b1, b2, b3, a4.tr b4, b5⟩
          · refine Or.inr ⟨b, hb3, ?_, ?_⟩
            · intro d M hd hC hb
              obtain ⟨M1, a1, a2, a3, a4⟩ := co d M hd hC hb
              obtain ⟨M2, b1, b2, b3⟩ := ic d M1 hd a2 a3
              exact ⟨M2, a1.trans b1, b2, a4.tr b3⟩
            · intro c e d M hd hC h61 h62 hb
              obtain ⟨M1, a1, a2, a3, a4, a5, a6⟩ := mo c e d M hd hC h61 h62 hb
              obtain ⟨M2, w, b1, b2, b3⟩ := im c e d M1 hd a2 a5 a6 a3
              exact ⟨M2, w, a1.trans b1, a4.tr b2, b3⟩
        · have s2b : Pb S2 ≤ n := by have := gV.1; have := gV.2.1; omega
          refine Or.inr ⟨Pb S2, s2b, ?_, ?_⟩
          · intro d M hd hC hb
            obtain ⟨M1, a1, a2, a3⟩ := c_nx_43 J R nL xs D (d := d) (by omega) v2 v3 hC
            obtain ⟨M2, b1, b2, b3⟩ := xc d M1 (by omega) a2
            refine ⟨M2, ?_, b2.2.1.1, (a3.tr b3).g⟩
            have h6' : M2 37 6 = nI (Pt S2) := b2.2.1.2.2.1
            rw [cs d M M1 M2 1 hC a1 b1]
            simp (disch := omega) only [px_bd_s, px_psh_s, px_psh_n, px_vb_s, px_ib_s, px_wb_s, px_bo_s, px_bo_n, Bool.cond_decide, cond_true, cond_false, ite_not, Bool.and_true, if_true, if_false, not_true_eq_false, not_false_eq_true, i10, eq_self, decide_true, decide_false, Bool.or_true, Bool.true_or, Bool.or_false, Bool.false_or, Bool.false_eq_true, eX5_readBars_43_2_12, h6', zs59, t59, eX5_readBars_43_38]
          · intro c e d M hd hC h61 h62 hb
            obtain ⟨d, rfl⟩ : ∃ d', d = d' + 1 := ⟨d - 1, by omega⟩
            obtain ⟨p1, p2, p3⟩ := MP_pt hC hb (by omega) hB.2.2.1
            obtain ⟨M1, a1, a2, a3, a4, a5⟩ := m_nx J R nL xs D c e (d := d) (by omega) v2 v3 p1
            obtain ⟨M2, b1, b2, b3, b4, b5⟩ := xm c e (d + 1) M1 (by omega) a2 (a4.trans h61) (a5.trans h62)
            have c1 := m_can J R nL xs D c e (d := d) (by omega) b4 b2.2.2.1.1
            obtain ⟨M4, w4, d1, d2, d3⟩ := wend c e (q + 1) (d + 1) (Pb S2) (px_uR M2 67 (upd (M2 67) 61 (nI (Pb S2)))) (by omega) (by omega) (by omega) rfl
            refine ⟨M4, w4, ?_, (((p3.tr a3.g).tr b3.g).tr ((MF.rf M2).k 61 (by decide) (nI (Pb S2))).g).tr d2, d3⟩
            refine Eq.trans ?_ d1
            have h6' : M2 67 59 = nI (mtk (Pt S2)) := b2.2.2.1.2.2.1
            have w2 := m_wr_n J R nL xs D c e (d := d) (by omega) b4
            rw [msn c e d M _ M1 M2 (by omega) hC h61 rfl a1 b1]
            simp (disch := omega) only [px_bd_s, px_psh_s, px_psh_n, px_vb_s, px_ib_s, px_wb_s, px_bo_s, px_bo_n, Bool.cond_decide, cond_true, cond_false, ite_not, Bool.and_true, if_true, if_false, not_true_eq_false, not_false_eq_true, i10, eq_self, decide_true, decide_false, Bool.or_true, Bool.true_or, Bool.or_false, Bool.false_or, Bool.false_eq_true, eX12_reads_61_14, xX12_need, eX12_need_0, w2, eX12_need_0_2, eX12_need_8, h6', mz59, t59, c1, eX12_need_8_6, eX12_need_27, eX12_reads_61_17]
      · refine Or.inr ⟨b, hb3, ?_, ?_⟩
        · intro d M hd hC hb
          obtain ⟨M1, a1, a2, a3⟩ := c_nx_43 J R nL xs D (d := d) (by omega) v2 v3 hC
          obtain ⟨M2, b1, b2, b3⟩ := xc d M1 (by omega) a2
          refine ⟨M2, ?_, b2.2.1, (a3.tr b3).g⟩
          rw [cs d M M1 M2 0 hC a1 b1]
          simp (disch := omega) only [px_bd_s, px_psh_s, px_psh_n, px_vb_s, px_ib_s, px_wb_s, px_bo_s, px_bo_n, Bool.cond_decide, cond_true, cond_false, ite_not, Bool.and_true, if_true, if_false, not_true_eq_false, not_false_eq_true, i10, eq_self, decide_true, decide_false, Bool.or_true, Bool.true_or, Bool.or_false, Bool.false_or, Bool.false_eq_true, eX5_readBars_43_2_12, eX5_readBars_43_38]
        · intro c e d M hd hC h61 h62 hb
          obtain ⟨d, rfl⟩ : ∃ d', d = d' + 1 := ⟨d - 1, by omega⟩
          obtain ⟨p1, p2, p3⟩ := MP_pt hC hb (by omega) hB.2.2.1
          obtain ⟨M1, a1, a2, a3, a4, a5⟩ := m_nx J R nL xs D c e (d := d) (by omega) v2 v3 p1
          obtain ⟨M2, N, b1, b2, b2', b3, b4, b5⟩ := xm c e (d + 1) M1 (by omega) a2 (a4.trans h61) (a5.trans h62)
          have nw := m_need_w J R nL xs D c e (d := d + 1) (by omega) (show b ≤ 160 by omega) b4 59
          obtain ⟨M4, w4, d1, d2, d3⟩ := wend c e (q + 1) (d + 1) b M2 (by omega) (by omega) (by omega) b4
          refine ⟨M4, w4, ?_, ((p3.tr a3.g).tr b3.g).tr d2, d3⟩
          refine Eq.trans ?_ d1
          rw [msn c e d M _ M1 M2 (by omega) hC h61 rfl a1 b1]
          simp (disch := omega) only [px_bd_s, px_psh_s, px_psh_n, px_vb_s, px_ib_s, px_wb_s, px_bo_s, px_bo_n, Bool.cond_decide, cond_true, cond_false, ite_not, Bool.and_true, if_true, if_false, not_true_eq_false, not_false_eq_true, i10, eq_self, decide_true, decide_false, Bool.or_true, Bool.true_or, Bool.or_false, Bool.false_or, Bool.false_eq_true, eX12_reads_61_14, nw, eX12_reads_61_17]
    · by_cases t0 : Pt S = 0
      · refine Or.inl ⟨S, q, pt, hV, hB, ?_, ?_⟩
        · intro d M hd hC hb
          refine ⟨M, ?_, hC, hb, frm.rf _ _ _, fun _ _ => rfl⟩
          have h6 : M 37 6 = nI (Pt S) := hC.2.1.2.2.1
          rw [eX5_readBars_43_2]
          simp (disch := omega) only [px_bd_s, px_psh_s, px_psh_n, px_vb_s, px_ib_s, px_wb_s, px_bo_s, px_bo_n, Bool.cond_decide, cond_true, cond_false, ite_not, Bool.and_true, if_true, if_false, not_true_eq_false, not_false_eq_true, i10, eq_self, decide_true, decide_false, Bool.or_true, Bool.true_or, Bool.or_false, Bool.false_or, Bool.false_eq_true, x6, h6, zs10, t10, eX5_readBars_43_57, zs0, t0, show ¬ (0 : Nat) = 10 from by decide, eX5_readBars_43_69]
        · intro c e d M hd hC h61 h62 hb
          obtain ⟨d, rfl⟩ : ∃ d', d = d' + 1 := ⟨d - 1, by omega⟩
          obtain ⟨p1, p2, p3⟩ := MP_pt hC hb (by omega) hB.2.2.1
          obtain ⟨M1, a1, a2, a3, a4, a5⟩ := m_nx J R nL xs D c e (d := d) (by omega) v2 v3 p1
          refine ⟨M1, ?_, ⟨a2.2.2.2.2.1, a2.2.2.2.2.2⟩, a3.b p2, p3.tr a3.g, a4.trans h61⟩
          have h6 : M 67 59 = nI (mtk (Pt S)) := hC.2.2.1.2.2.1
          have h63 : M 67 63 = nI (Pn S) := hC.2.2.2.2.1
          have w := m_wr_n J R nL xs D c e (d := d + 1) (by omega) h61
          have w2 := m_wr_n J R nL xs D c e (d := d) (by omega) (M := px_uR M 98 (upd (M 98) (8 + q) (nI (Pn S)))) h61
          have h6' : px_uR M 98 (upd (M 98) (8 + q) (nI (Pn S))) 67 59 = nI (mtk (Pt S)) := h6
          have e8 : (8 : Int32) + nI q = nI (8 + q) := nI_add 8 q
          rw [eX12_reads_31, w]
          simp (disch := omega) only [px_bd_s, px_psh_s, px_psh_n, px_vb_s, px_ib_s, px_wb_s, px_bo_s, px_bo_n, Bool.cond_decide, cond_true, cond_false, ite_not, Bool.and_true, if_true, if_false, not_true_eq_false, not_false_eq_true, i10, eq_self, decide_true, decide_false, Bool.or_true, Bool.true_or, Bool.or_false, Bool.false_or, Bool.false_eq_true, eX12_reads_31_2, h6, mz10, t0, show ¬ (0 : Nat) = 10 from by decide, eX12_reads_97, e8, px_inbT, nI_clamp, h63, xX12_need, eX12_need_0, w2, eX12_need_0_2, eX12_need_8, h6', mz0, eX12_need_23, a1, eX12_need_23_2, eX12_need_27, eX12_reads_97_11]
      · refine Or.inr ⟨Pb S, by omega, ?_, ?_⟩
        · intro d M hd hC hb
          refine ⟨M, ?_, hC.2.1.1, frm.rf _ _ _, fun _ _ => rfl⟩
          have h6 : M 37 6 = nI (Pt S) := hC.2.1.2.2.1
          rw [eX5_readBars_43_2]
          simp (disch := omega) only [px_bd_s, px_psh_s, px_psh_n, px_vb_s, px_ib_s, px_wb_s, px_bo_s, px_bo_n, Bool.cond_decide, cond_true, cond_false, ite_not, Bool.and_true, if_true, if_false, not_true_eq_false, not_false_eq_true, i10, eq_self, decide_true, decide_false, Bool.or_true, Bool.true_or, Bool.or_false, Bool.false_or, Bool.false_eq_true, x6, h6, zs10, t10, eX5_readBars_43_57, zs0, t0, eX5_readBars_43_68, eX5_readBars_43_69]
        · intro c e d M hd hC h61 h62 hb
          obtain ⟨d, rfl⟩ : ∃ d', d = d' + 1 := ⟨d - 1, by omega⟩
          have h6 : M 67 59 = nI (mtk (Pt S)) := hC.2.2.1.2.2.1
          have w := m_wr_n J R nL xs D c e (d := d + 1) (by omega) h61
          obtain ⟨p1, p2, p3⟩ := MP_pt hC hb (by omega) hB.2.2.1
          have c1 := m_can J R nL xs D c e (d := d) (by omega) (M := px_uR M 98 (upd (M 98) (8 + q) (nI (Pn S)))) h61 p1.2.2.1.1
          refine ⟨px_uR (px_uR M 98 (upd (M 98) (8 + q) (nI (Pn S)))) 67 (upd (M 67) 61 (nI (Pb S))), nI q, ?_, p3.tr ((MF.rf _).k 61 (by decide) _).g, rfl⟩
          have h63 : M 67 63 = nI (Pn S) := hC.2.2.2.2.1
          have w2 := m_wr_n J R nL xs D c e (d := d) (by omega) (M := px_uR M 98 (upd (M 98) (8 + q) (nI (Pn S)))) h61
          have h6' : px_uR M 98 (upd (M 98) (8 + q) (nI (Pn S))) 67 59 = nI (mtk (Pt S)) := h6
          have e8 : (8 : Int32) + nI q = nI (8 + q) := nI_add 8 q
          rw [eX12_reads_31, w]
          simp (disch := omega) only [px_bd_s, px_psh_s, px_psh_n, px_vb_s, px_ib_s, px_wb_s, px_bo_s, px_bo_n, Bool.cond_decide, cond_true, cond_false, ite_not, Bool.and_true, if_true, if_false, not_true_eq_false, not_false_eq_true, i10, eq_self, decide_true, decide_false, Bool.or_true, Bool.true_or, Bool.or_false, Bool.false_or, Bool.false_eq_true, eX12_reads_31_2, h6, mz10, t10, eX12_reads_97, e8, px_inbT, nI_clamp, h63, xX12_need, eX12_need_0, w2, eX12_need_0_2, eX12_need_8, h6', mz0, t0, c1, eX12_need_8_6, eX12_need_27, eX12_reads_97_11]
          rfl
end S88
