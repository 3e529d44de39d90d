/-! PART 89: RULE -/
theorem IWd.fr {S K : List Nat} {M M' : Nat → Nat → Int32} (hf : frm S K M M') (h : 106 ∉ S) (hW : IWd M) : IWd M' := by
  unfold IWd
  rw [hf.1 106 (by decide) h]
  exact hW
theorem IRc_c {nb : Nat} {pt : Nat → Nat} {cb mb : Int32} {en sp opd op vl pr op' vl' pr' : Nat → Int32} (h : IRc nb pt cb mb en sp opd op vl pr) (h1 : ∀ i, i < 160 → op' i = op i ∧ vl' i = vl i) (h2 : ∀ i, i < 8 → pr' i = pr i) : IRc nb pt cb mb en sp opd op' vl' pr' := by
  obtain ⟨a1, a2, a3, a4, a5, a6, a7, a8⟩ := h
  have ec : ∀ i, i < 160 → cdf op' i = cdf op i := fun i hi => by
    unfold cdf
    rw [(h1 i hi).1]
  refine ⟨a1, a2, a3, a4, fun b hb => ⟨?_, (a5 b hb).2⟩, a6, fun b hb => ⟨(a7 b hb).1, (a7 b hb).2.1, ?_⟩, fun i hi => ?_⟩
  · rw [h2 b (by omega)]
    exact (a5 b hb).1
  · refine wfR_c _ _ _ (fun i i1 i2 => ?_) (a7 b hb).2.2
    have k1 := (a5 (b + 1) (by omega)).2
    have k2 := (a7 b hb).2.1
    exact (ec i (by omega)).symm
  · rw [ec i (by omega), (h1 i (by omega)).1, (h1 i (by omega)).2]
    exact a8 i hi
section S89
variable (d : Nat) (J : Nat → Nat → Int64) (R : Nat → Nat → Option Nat) (c e nL : Nat) (xs : Nat → Int32) (D : px_H)
theorem m_cp_l {N nb : Nat} (hN : N ≤ 160) : ∀ (g k : Nat) (M : Nat → Nat → Int32), k + g = N → M 67 63 = nI N → ∃ M1, px_run (px_mk (kX12_rule (px_ex px_tab d))) 40 ([some (Value.ref (67)), some (Value.int (nI nb)), some (Value.int (nI k))], [], (hp (M) (J) (R) (c) (e) nL xs (D))) = px_run (px_mk (kX12_rule (px_ex px_tab d))) 88 ([some (Value.ref (67)), some (Value.int (nI nb)), some (Value.int (0))], [], (hp (M1) (J) (R) (c) (e) nL xs (D))) ∧ frm [96, 97] [] M M1 ∧ (∀ i, k ≤ i → i < N → M1 96 i = M 96 (160 + i) ∧ M1 97 i = M 97 (160 + i)) ∧ ∀ i, i < k → M1 96 i = M 96 i ∧ M1 97 i = M 97 i
  | 0, k, M, hk, h63 => by
    refine ⟨M, ?_, frm.rf _ _ _, fun i h1 h2 => by omega, fun _ _ => ⟨rfl, rfl⟩⟩
    rw [eX12_rule_40, h63]
    simp (disch := omega) only [px_bd_s, px_psh_s, px_psh_n, px_vb_s, px_ib_s, px_wb_s, px_bo_s, px_bo_n, Bool.cond_decide, cond_true, cond_false, ite_not, Bool.and_true, if_true, if_false, not_true_eq_false, not_false_eq_true, i10, eq_self, decide_true, decide_false, Bool.or_true, Bool.true_or, Bool.or_false, Bool.false_or, Bool.false_eq_true, nI_leI, if_pos, eX12_rule_86]
  | g + 1, k, M, hk, h63 => by
    obtain ⟨M1, q1, q2, q3, q4⟩ := m_cp_l hN g (k + 1) (px_uR (px_uR M 96 (upd (M 96) k (M 96 (160 + k)))) 97 (upd (M 97) k (M 97 (160 + k)))) (by omega) h63
    have e1 : (160 : Int32) + nI k = nI (160 + k) := nI_add 160 k
    refine ⟨M1, ?_, ((((frm.rf [96, 97] [] M).u 96 _ (by decide) (by decide)).u 97 _ (by decide) (by decide))).tr q2, fun i h1 h2 => ?_, fun i hi => ?_⟩
    · refine Eq.trans ?_ q1
      rw [eX12_rule_40, h63]
      simp (disch := omega) only [px_bd_s, px_psh_s, px_psh_n, px_vb_s, px_ib_s, px_wb_s, px_bo_s, px_bo_n, Bool.cond_decide, cond_true, cond_false, ite_not, Bool.and_true, if_true, if_false, not_true_eq_false, not_false_eq_true, i10, eq_self, decide_true, decide_false, Bool.or_true, Bool.true_or, Bool.or_false, Bool.false_or, Bool.false_eq_true, nI_leI, if_neg, e1, px_inbT, nI_clamp, zp1]
    · by_cases ei : i = k
      · subst ei
        rw [(q4 i (by omega)).1, (q4 i (by omega)).2]
        show upd (M 96) i (M 96 (160 + i)) i = M 96 (160 + i) ∧ upd (M 97) i (M 97 (160 + i)) i = M 97 (160 + i)
        rw [pk_us, pk_us]
        exact ⟨rfl, rfl⟩
      · rw [(q3 i (by omega) h2).1, (q3 i (by omega) h2).2]
        show upd (M 96) k (M 96 (160 + k)) (160 + i) = M 96 (160 + i) ∧ upd (M 97) k (M 97 (160 + k)) (160 + i) = M 97 (160 + i)
        rw [pk_un (by omega), pk_un (by omega)]
        exact ⟨rfl, rfl⟩
    · rw [(q4 i (by omega)).1, (q4 i (by omega)).2]
      show upd (M 96) k (M 96 (160 + k)) i = M 96 i ∧ upd (M 97) k (M 97 (160 + k)) i = M 97 i
      rw [pk_un (by omega), pk_un (by omega)]
      exact ⟨rfl, rfl⟩
theorem m_pt_l {nb : Nat} (hn : nb ≤ 6) : ∀ (g k : Nat) (M : Nat → Nat → Int32), k + g = nb + 1 → ∃ M1, px_run (px_mk (kX12_rule (px_ex px_tab d))) 88 ([some (Value.ref (67)), some (Value.int (nI nb)), some (Value.int (nI k))], [], (hp (M) (J) (R) (c) (e) nL xs (D))) = some (some (Value.int (nI nb)), (hp (M1) (J) (R) (c) (e) nL xs (D))) ∧ frm [98] [] M M1 ∧ (∀ i, k ≤ i → i ≤ nb → M1 98 i = M 98 (8 + i)) ∧ ∀ i, i < k → M1 98 i = M 98 i
  | 0, k, M, hk => by
    refine ⟨M, ?_, frm.rf _ _ _, fun i h1 h2 => by omega, fun _ _ => rfl⟩
    rw [eX12_rule_88]
    simp (disch := omega) only [px_bd_s, px_psh_s, px_psh_n, px_vb_s, px_ib_s, px_wb_s, px_bo_s, px_bo_n, Bool.cond_decide, cond_true, cond_false, ite_not, Bool.and_true, if_true, if_false, not_true_eq_false, not_false_eq_true, i10, eq_self, decide_true, decide_false, Bool.or_true, Bool.true_or, Bool.or_false, Bool.false_or, Bool.false_eq_true, nI_ltI, if_pos, eX12_rule_114]
  | g + 1, k, M, hk => by
    obtain ⟨M1, q1, q2, q3, q4⟩ := m_pt_l hn g (k + 1) (px_uR M 98 (upd (M 98) k (M 98 (8 + k)))) (by omega)
    have e1 : (8 : Int32) + nI k = nI (8 + k) := nI_add 8 k
    refine ⟨M1, ?_, ((frm.rf [98] [] M).u 98 _ (by decide) (by decide)).tr q2, fun i h1 h2 => ?_, fun i hi => ?_⟩
    · refine Eq.trans ?_ q1
      rw [eX12_rule_88]
      simp (disch := omega) only [px_bd_s, px_psh_s, px_psh_n, px_vb_s, px_ib_s, px_wb_s, px_bo_s, px_bo_n, Bool.cond_decide, cond_true, cond_false, ite_not, Bool.and_true, if_true, if_false, not_true_eq_false, not_false_eq_true, i10, eq_self, decide_true, decide_false, Bool.or_true, Bool.true_or, Bool.or_false, Bool.false_or, Bool.false_eq_true, nI_ltI, if_neg, e1, px_inbT, nI_clamp, zp1]
    · by_cases ei : i = k
      · subst ei
        rw [q4 i (by omega)]
        show upd (M 98) i (M 98 (8 + i)) i = M 98 (8 + i)
        exact pk_us
      · rw [q3 i (by omega) h2]
        show upd (M 98) k (M 98 (8 + k)) (8 + i) = M 98 (8 + i)
        exact pk_un (by omega)
    · rw [q4 i (by omega)]
      show upd (M 98) k (M 98 (8 + k)) i = M 98 i
      exact pk_un (by omega)
end S89
section S89b
variable (d : Nat) (J : Nat → Nat → Int64) (R : Nat → Nat → Option Nat) (nL : Nat) (xs : Nat → Int32) (D : px_H)
/-- the model's side up to the first token -/
theorem m_first {T : Nat → Nat} {n : Nat} (hn : n ≤ 160) (c e : Nat) (M : Nat → Nat → Int32) (hX : TX T n (M 95)) (hW : IWd M) (h37 : M 67 37 = nI n) : ∃ Mn, px_ex px_tab (d + 54) 227 [Value.ref (67)] (hp (M) (J) (R) (c) (e) nL xs (D)) = px_bd (px_run (px_mk (kX12_reads (px_ex px_tab (d + 52)))) 31 ([some (Value.ref (67)), some (Value.int (0))], [], (hp (Mn) (J) (R) (c) (e) nL xs (D)))) (fun v G1 => px_p (kX12_rule (px_ex px_tab (d + 53))) 0 9 ([some (.ref 67), none, none], px_psh v [], G1)) ∧ MP T n (nx T n (0, 0, 0, 0, 0, fun _ => 0, fun _ => 0)) Mn ∧ Mn 67 61 = -1 ∧ Mn 67 62 = 0 ∧ frm [] [37, 55, 56, 57, 58, 59, 60, 61, 62, 63] M Mn ∧ Mn 67 37 = 0 := by
  have hT : MT T n (px_uR M 67 (upd (upd (upd (upd (upd (upd (upd (M 67) 55 (M 67 37)) 37 0) 56 1) 57 0) 61 (-1)) 62 0) 63 0)) := ⟨h37, hX⟩
  obtain ⟨Mn, q1, q2, q3⟩ := m_next (d + 49) J R c e nL xs D hn (a := 0) (Nat.zero_le _) _ hT hW rfl
  have fr : frm [] [37, 55, 56, 57, 58, 59, 60, 61, 62, 63] M (px_uR M 67 (upd (upd (upd (upd (upd (upd (upd (M 67) 55 (M 67 37)) 37 0) 56 1) 57 0) 61 (-1)) 62 0) 63 0)) := by
    have z := ((((((((frm.rf [] [37, 55, 56, 57, 58, 59, 60, 61, 62, 63] M).k 55 (M 67 37) (by decide)).k 37 0 (by decide)).k 56 1 (by decide)).k 57 0 (by decide)).k 61 (-1) (by decide)).k 62 0 (by decide)).k 63 0 (by decide))
    simp only [px_uR_2] at z
    exact z
  refine ⟨Mn, ?_, ⟨q2.mt hT, q2.wd hW, q3, ?_, ?_, fun i hi => ?_⟩, ?_, ?_, fr.tr (frm.mono q2 (by simp) (by simp)), ?_⟩
  · rw [xX12_rule, eX12_rule_0, xX12_reads, eX12_reads_0]
    simp only [px_uR_2]
    have e67 : px_uR M 67 (upd (upd (M 67) 55 (M 67 37)) 37 0) 67 = upd (upd (M 67) 55 (M 67 37)) 37 0 := rfl
    rw [e67, q1]
    simp only [px_bd_s, px_psh_s, px_psh_n, px_vb_s, px_ib_s, px_wb_s, px_bo_s, px_bo_n, Bool.cond_decide, cond_true, cond_false, ite_not, Bool.and_true, if_true, if_false, not_true_eq_false, not_false_eq_true, i10, eq_self, decide_true, decide_false, Bool.or_true, Bool.true_or, Bool.or_false, Bool.false_or, Bool.false_eq_true, eX12_reads_0_19]
  · rw [q2.2 56 (by decide)]
    rfl
  · rw [q2.2 63 (by decide)]
    rfl
  · have hi' : i < 0 := hi
    omega
  · rw [q2.2 61 (by decide)]
    rfl
  · rw [q2.2 62 (by decide)]
    rfl
  · rw [q2.2 37 (by decide)]
    rfl
theorem t_rule_38 (M : Nat → Nat → Int32) (hT : ITx M) (hW : IWd M) (hR : IRl M 38 43) : ∃ w M1 M2 c' e', px_ex px_tab (d + 54) 146 [Value.ref (13)] (hp (M) (J) (R) (38) (43) nL xs (D)) = some (some (Value.int (w)), (hp (M1) (J) (R) (c') (e') nL xs (D))) ∧ px_ex px_tab (d + 54) 227 [Value.ref (67)] (hp (M1) (J) (R) (c') (e') nL xs (D)) = some (some (Value.int (w)), (hp (M2) (J) (R) (c') (e') nL xs (D))) ∧ ITx M2 ∧ IRl M2 c' e' ∧ frm [37, 38, 39, 40, 41, 43, 44, 45, 46, 96, 97, 98] [37, 38, 55, 56, 57, 58, 59, 60, 61, 62, 63] M M2 := by
  obtain ⟨n, hn, h37, h67, hrow⟩ := hT
  have hX95 : TX (fun i => (M 95 i).toNatClampNeg) n (M 95) := fun i hi => by
    obtain ⟨_, j, hj, ej⟩ := hrow i hi
    show (M 95 i).toNatClampNeg < 256 ∧ M 95 i = nI (M 95 i).toNatClampNeg
    rw [ej, nI_clamp (by omega)]
    exact ⟨hj, rfl⟩
  have hX48 : TX (fun i => (M 95 i).toNatClampNeg) n (M 48) := fun i hi => by
    obtain ⟨k1, k2⟩ := hX95 i hi
    exact ⟨k1, ((hrow i hi).1).trans k2⟩
  generalize (fun i => (M 95 i).toNatClampNeg) = T at hX95 hX48
  have V0 : PV n ((0, 0, 0, 0, 0, fun _ => 0, fun _ => 0) : PS) := ⟨Nat.le_refl _, Nat.zero_le _, hn, Nat.zero_le _, fun q => absurd rfl q, Nat.le_refl _, fun i hi => by
    have hi' : i < 0 := hi
    omega⟩
  have V1 := (nx_V T V0).1
  have hCT : CT T n (px_uR (px_uR M 37 (upd (M 37) 5 0)) 43 (upd (upd (M 43) 0 0) 1 0)) := ⟨h37, hX48⟩
  obtain ⟨Mn, n1, n2, n3⟩ := c_next_38 (d + 49) J R nL xs D hn (a := 0) (Nat.zero_le _) _ hCT rfl
  have cE : Mn 43 = upd (upd (M 43) 0 0) 1 0 := n2.1.1 43 (by decide) (by decide)
  have CP1 : CP 43 T n (nx T n (0, 0, 0, 0, 0, fun _ => 0, fun _ => 0)) Mn := by
    refine ⟨n2.ct hCT, n3, ?_, fun i hi => ?_⟩
    · rw [cE]
      exact pk_us
    · have hi' : i < 0 := hi
      omega
  have CB1 : CB 43 0 (fun _ => 0) Mn := by
    refine ⟨?_, fun i hi => by omega⟩
    rw [cE, pk_un (by decide)]
    exact pk_us
  have f0 : frm [37, 43, 43 + 1, 43 + 2, 43 + 3] [] M Mn := (((frm.rf [37, 43, 43 + 1, 43 + 2, 43 + 3] [] M).u 37 (upd (M 37) 5 0) (by decide) (by decide)).u 43 (upd (upd (M 43) 0 0) 1 0) (by decide) (by decide)).tr (n2.1.mono (by simp) (by simp))
  have cl : ∀ (M1 : Nat → Nat → Int32) (w : Int32), px_run (px_mk (kX5_readBars (px_ex px_tab (d + 51)))) 2 ([some (Value.ref (37)), some (Value.int (nI 0))], [], (hp (Mn) (J) (R) (38) (43) nL xs (D))) = some (some (Value.int (w)), (hp (M1) (J) (R) (38) (43) nL xs (D))) → px_ex px_tab (d + 54) 146 [Value.ref (13)] (hp (M) (J) (R) (38) (43) nL xs (D)) = px_bd (px_p (kX5_readAll (px_ex px_tab (d + 52))) 0 10 ([some (Value.ref (37)), none, none], [Value.int (w)], (hp (M1) (J) (R) (38) (43) nL xs (D)))) (fun v G1 => px_p (kX11_rule (px_ex px_tab (d + 53))) 0 3 ([some (.ref 13)], px_psh v [], G1)) := by
    intro M1 w hr
    have hr' : px_ex px_tab (d + 52) 51 [Value.ref (37)] (hp (Mn) (J) (R) (38) (43) nL xs (D)) = some (some (Value.int (w)), (hp (M1) (J) (R) (38) (43) nL xs (D))) := by
      rw [xX5_readBars, eX5_readBars_38_0]
      exact hr
    have hc : px_ex px_tab (d + 52) 39 [Value.ref (43)] (hp (px_uR M 37 (upd (M 37) 5 0)) (J) (R) (38) (43) nL xs (D)) = some (none, (hp (px_uR (px_uR M 37 (upd (M 37) 5 0)) 43 (upd (upd (M 43) 0 0) 1 0)) (J) (R) (38) (43) nL xs (D))) := by
      rw [xX4_clear, eX4_clear_43_0]
      rfl
    rw [xX11_rule, eX11_rule_0, xX5_readAll, eX5_readAll_38_0, hc]
    simp only [px_bd_s, px_psh_s, px_psh_n, px_vb_s, px_ib_s, px_wb_s, px_bo_s, px_bo_n, Bool.cond_decide, cond_true, cond_false, ite_not, Bool.and_true, if_true, if_false, not_true_eq_false, not_false_eq_true, i10, eq_self, decide_true, decide_false, Bool.or_true, Bool.true_or, Bool.or_false, Bool.false_or, Bool.false_eq_true, eX5_readAll_38_0_6, n1, eX5_readAll_38_0_8, hr']
  rcases r_bars_38 J R nL xs D hn (T := T) 6 0 _ (fun _ => 0) rfl V1 ⟨Nat.zero_le _, rfl, rfl, fun i hi => by omega⟩ with ⟨S', nb, pt, sV, sB, xc, xm⟩ | ⟨b, hb, xc, xm⟩
  · obtain ⟨Mb, a1, a2, a3, a4⟩ := xc (d + 51) Mn (by omega) CP1 CB1
    have fb : frm [37, 43, 43 + 1, 43 + 2, 43 + 3] [] M (px_uR Mb 37 (upd (Mb 37) 2 0)) := (f0.tr a4.1).u 37 _ (by decide) (by decide)
    have b95 : px_uR Mb 37 (upd (Mb 37) 2 0) 95 = M 95 := fb.1 95 (by decide) (by decide)
    obtain ⟨Mm, m1, m2, m3, m4, m5, m6⟩ := m_first d J R nL xs D hn 43 38 (px_uR Mb 37 (upd (Mb 37) 2 0)) (by rw [b95]; exact hX95) (hW.fr fb (by decide)) ((fb.2 37 (by decide)).trans h67)
    obtain ⟨Mr, r1, r2, r3, r4, r5⟩ := xm 43 38 (d + 52) Mm (by omega) m2 m3 m4 (fun i hi => by omega)
    have s6 := sB.1
    have sn : Pn S' ≤ 160 := by have := sV.1; have := sV.2.1; have := sV.2.2.2.2.2.1; omega
    obtain ⟨M3, u1, u2, u3, u4⟩ := m_cp_l (d + 53) J R 43 38 nL xs D sn (nb := nb) (Pn S') 0 (px_uR Mr 67 (upd (Mr 67) 38 (nI nb))) (by omega) r2.1
    obtain ⟨M4, w1, w2, w3, w4⟩ := m_pt_l (d + 53) J R 43 38 nL xs D s6 (nb + 1) 0 M3 (by omega)
    have a30 : Mb 43 0 = nI nb := a3.1
    refine ⟨nI nb, px_uR Mb 37 (upd (Mb 37) 2 0), M4, 43, 38, ?_, ?_, ?_, ?_, ?_⟩
    · rw [cl Mb 1 a1]
      have e0 : px_uR Mb 37 (upd (Mb 37) 2 0) 43 0 = nI nb := a30
      simp only [px_bd_s, px_psh_s, px_psh_n, px_vb_s, px_ib_s, px_wb_s, px_bo_s, px_bo_n, Bool.cond_decide, cond_true, cond_false, ite_not, Bool.and_true, if_true, if_false, not_true_eq_false, not_false_eq_true, i10, eq_self, decide_true, decide_false, Bool.or_true, Bool.true_or, Bool.or_false, Bool.false_or, Bool.false_eq_true, eX5_readAll_38_0_10, eX5_readAll_38_38, e0, eX11_rule_0_3]
    · have wn := m_wr_n J R nL xs D 43 38 (d := d + 53) (by omega) r5
      rw [m1, show px_run (px_mk (kX12_reads (px_ex px_tab (d + 52)))) 31 ([some (Value.ref (67)), some (Value.int (0))], [], (hp (Mm) (J) (R) (43) (38) nL xs (D))) = _ from r1]
      simp only [px_bd_s, px_psh_s, px_psh_n, px_vb_s, px_ib_s, px_wb_s, px_bo_s, px_bo_n, Bool.cond_decide, cond_true, cond_false, ite_not, Bool.and_true, if_true, if_false, not_true_eq_false, not_false_eq_true, i10, eq_self, decide_true, decide_false, Bool.or_true, Bool.true_or, Bool.or_false, Bool.false_or, Bool.false_eq_true, eX12_rule_0_9, wn, eX12_rule_0_12, eX12_rule_33]
      exact (show _ = _ from u1).trans w1
    · have e1 : M4 67 37 = 0 := by
        rw [w2.2 37 (by decide), u2.2 37 (by decide)]
        show upd (Mr 67) 38 (nI nb) 37 = 0
        rw [pk_un (by decide), r4.1.2 37 (by decide)]
        exact m6
      have e2 : M4 37 2 = 0 := by
        rw [w2.1 37 (by decide) (by decide), u2.1 37 (by decide) (by decide)]
        show Mr 37 2 = 0
        rw [r4.1.1 37 (by decide) (by decide), m5.1 37 (by decide) (by decide)]
        rfl
      exact ⟨0, Nat.zero_le _, e2, e1, fun i hi => by omega⟩
    · have k0 : ∀ i, i < Pn S' → M4 96 i = nI (Pc S' i) ∧ M4 97 i = Pl S' i := fun i hi => by
        rw [w2.1 96 (by decide) (by decide), w2.1 97 (by decide) (by decide), (u3 i (Nat.zero_le _) hi).1, (u3 i (Nat.zero_le _) hi).2]
        exact r2.2 i hi
      have kc : ∀ i, i < Pn S' → cdf (M4 96) i = Pc S' i := fun i hi => by
        have := sV.2.2.2.2.2.2 i hi
        unfold cdf
        rw [(k0 i hi).1, nI_clamp (by omega)]
      have kr : ∀ a, a ≠ 67 → a ∉ [96, 97, 98] → a ≠ 37 → M4 a = Mb a := fun a h1 h2 h3 => by
        rw [w2.1 a h1 (fun q => h2 (by simp at q ⊢; omega)), u2.1 a h1 (fun q => h2 (by simp at q ⊢; omega))]
        show px_uR Mr 67 (upd (Mr 67) 38 (nI nb)) a = Mb a
        rw [px_uR_n _ _ _ _ h1, r4.1.1 a h1 (fun q => h2 (by simp at q ⊢; omega)), m5.1 a h1 (by simp), px_uR_n _ _ _ _ h3]
      have e38 : M4 67 38 = nI nb := by
        rw [w2.2 38 (by decide), u2.2 38 (by decide)]
        show upd (Mr 67) 38 (nI nb) 38 = nI nb
        exact pk_us
      have e98 : ∀ i, i ≤ nb → M4 98 i = nI (pt i) := fun i hi => by
        rw [w3 i (Nat.zero_le _) hi, u2.1 98 (by decide) (by decide)]
        exact r3 i (by omega)
      have mono : ∀ i, i ≤ nb → pt i ≤ pt nb := fun i hi => by
        rcases Nat.lt_or_ge i nb with q | q
        · have z := sB.2.2.2 i q
          rw [sB.2.2.1]
          omega
        · rw [show i = nb from by omega]
          exact Nat.le_refl _
      have irc : IRc nb pt (M4 43 0) (M4 67 38) (M4 44) (M4 45) (M4 46) (M4 96) (M4 97) (M4 98) := by
        rw [kr 43 (by decide) (by decide) (by decide), kr 44 (by decide) (by decide) (by decide), kr 45 (by decide) (by decide) (by decide), kr 46 (by decide) (by decide) (by decide)]
        refine ⟨s6, a30, e38, sB.2.1, fun b hb => ⟨e98 b hb, mono b hb⟩, by rw [sB.2.2.1]; exact sn, fun b hb => ⟨a3.2 b hb, (sB.2.2.2 b hb).1, ?_⟩, fun i hi => ?_⟩
        · have z := sB.2.2.2 b hb
          exact wfR_c _ _ _ (fun i i1 i2 => (kc i (by omega)).symm) z.2.2
        · rw [sB.2.2.1] at hi
          rw [kc i hi, (k0 i hi).1, (k0 i hi).2]
          exact ⟨(a2.2.2.2 i hi).1, (a2.2.2.2 i hi).2, rfl⟩
      first
        | exact Or.inr ⟨rfl, rfl, nb, pt, irc⟩
        | exact Or.inl ⟨rfl, rfl, nb, pt, irc⟩
    · have g1 : frm [37, 38, 39, 40, 41, 43, 44, 45, 46, 96, 97, 98] [37, 38, 55, 56, 57, 58, 59, 60, 61, 62, 63] M (px_uR Mb 37 (upd (Mb 37) 2 0)) := fb.mono (by decide) (by decide)
      have g2 : frm [37, 38, 39, 40, 41, 43, 44, 45, 46, 96, 97, 98] [37, 38, 55, 56, 57, 58, 59, 60, 61, 62, 63] (px_uR Mb 37 (upd (Mb 37) 2 0)) Mm := m5.mono (by decide) (by decide)
      have g3 : frm [37, 38, 39, 40, 41, 43, 44, 45, 46, 96, 97, 98] [37, 38, 55, 56, 57, 58, 59, 60, 61, 62, 63] Mm Mr := r4.1.mono (by decide) (by decide)
      have g4 : frm [37, 38, 39, 40, 41, 43, 44, 45, 46, 96, 97, 98] [37, 38, 55, 56, 57, 58, 59, 60, 61, 62, 63] Mr (px_uR Mr 67 (upd (Mr 67) 38 (nI nb))) := (frm.rf _ _ _).k 38 _ (by decide)
      exact ((((g1.tr g2).tr g3).tr g4).tr (u2.mono (by decide) (by decide))).tr (w2.mono (by decide) (by decide))
  · obtain ⟨Mb, a1, a2, a4⟩ := xc (d + 51) Mn (by omega) CP1 CB1
    have fb : frm [37, 43, 43 + 1, 43 + 2, 43 + 3] [] M (px_uR Mb 37 (upd (Mb 37) 2 0)) := (f0.tr a4.1).u 37 _ (by decide) (by decide)
    have b95 : px_uR Mb 37 (upd (Mb 37) 2 0) 95 = M 95 := fb.1 95 (by decide) (by decide)
    obtain ⟨Mm, m1, m2, m3, m4, m5, m6⟩ := m_first d J R nL xs D hn 38 43 (px_uR Mb 37 (upd (Mb 37) 2 0)) (by rw [b95]; exact hX95) (hW.fr fb (by decide)) ((fb.2 37 (by decide)).trans h67)
    obtain ⟨Mr, w, r1, r4, r5⟩ := xm 38 43 (d + 52) Mm (by omega) m2 m3 m4 (fun i hi => by omega)
    have wy := m_wr_y J R nL xs D 38 43 (d := d + 53) (by omega) (show b ≤ 160 by omega) r5
    refine ⟨-100 - nI b, px_uR Mb 37 (upd (Mb 37) 2 0), Mr, 38, 43, ?_, ?_, ?_, ?_, ?_⟩
    · rw [cl Mb 0 a1]
      simp only [px_bd_s, px_psh_s, px_psh_n, px_vb_s, px_ib_s, px_wb_s, px_bo_s, px_bo_n, Bool.cond_decide, cond_true, cond_false, ite_not, Bool.and_true, if_true, if_false, not_true_eq_false, not_false_eq_true, i10, eq_self, decide_true, decide_false, Bool.or_true, Bool.true_or, Bool.or_false, Bool.false_or, Bool.false_eq_true, eX5_readAll_38_0_10, a2, eX11_rule_0_3]
    · rw [m1, show px_run (px_mk (kX12_reads (px_ex px_tab (d + 52)))) 31 ([some (Value.ref (67)), some (Value.int (0))], [], (hp (Mm) (J) (R) (38) (43) nL xs (D))) = _ from r1]
      simp only [px_bd_s, px_psh_s, px_psh_n, px_vb_s, px_ib_s, px_wb_s, px_bo_s, px_bo_n, Bool.cond_decide, cond_true, cond_false, ite_not, Bool.and_true, if_true, if_false, not_true_eq_false, not_false_eq_true, i10, eq_self, decide_true, decide_false, Bool.or_true, Bool.true_or, Bool.or_false, Bool.false_or, Bool.false_eq_true, eX12_rule_0_9, wy, eX12_rule_0_12, r5]
    · have e1 : Mr 67 37 = 0 := by
        rw [r4.1.2 37 (by decide)]
        exact m6
      have e2 : Mr 37 2 = 0 := by
        rw [r4.1.1 37 (by decide) (by decide), m5.1 37 (by decide) (by decide)]
        rfl
      exact ⟨0, Nat.zero_le _, e2, e1, fun i hi => by omega⟩
    · have kr : ∀ a, a ≠ 67 → a ∉ [96, 97, 98] → a ∉ [37, 43, 43 + 1, 43 + 2, 43 + 3] → Mr a = M a := fun a h1 h2 h3 => by
        rw [r4.1.1 a h1 h2, m5.1 a h1 (by simp), fb.1 a h1 h3]
      have e38 : Mr 67 38 = M 67 38 := by
        rw [r4.1.2 38 (by decide), m5.2 38 (by decide), fb.2 38 (by decide)]
      have e96 : ∀ i, i < 160 → Mr 96 i = M 96 i ∧ Mr 97 i = M 97 i := fun i hi => by
        rw [(r4.2.1 i hi).1, (r4.2.1 i hi).2, m5.1 96 (by decide) (by simp), m5.1 97 (by decide) (by simp), fb.1 96 (by decide) (by decide), fb.1 97 (by decide) (by decide)]
        exact ⟨rfl, rfl⟩
      have e98 : ∀ i, i < 8 → Mr 98 i = M 98 i := fun i hi => by
        rw [r4.2.2 i hi, m5.1 98 (by decide) (by simp), fb.1 98 (by decide) (by decide)]
      have irc : ∀ nb pt, IRc nb pt (M 38 0) (M 67 38) (M 39) (M 40) (M 41) (M 96) (M 97) (M 98) → IRc nb pt (Mr 38 0) (Mr 67 38) (Mr 39) (Mr 40) (Mr 41) (Mr 96) (Mr 97) (Mr 98) := fun nb pt h => by
        rw [kr 38 (by decide) (by decide) (by decide), kr 39 (by decide) (by decide) (by decide), kr 40 (by decide) (by decide) (by decide), kr 41 (by decide) (by decide) (by decide), e38]
        exact IRc_c h e96 e98
      rcases hR with ⟨q1, q2, nb, pt, h1⟩ | ⟨q1, q2, nb, pt, h1⟩
      · first
          | (exfalso; revert q1; decide)
          | exact Or.inl ⟨rfl, rfl, nb, pt, irc nb pt h1⟩
      · first
          | (exfalso; revert q1; decide)
          | exact Or.inr ⟨rfl, rfl, nb, pt, irc nb pt h1⟩
    · exact ((fb.mono (by decide) (by decide)).tr (m5.mono (by decide) (by decide))).tr (r4.1.mono (by decide) (by decide))
theorem t_rule_43 (M : Nat → Nat → Int32) (hT : ITx M) (hW : IWd M) (hR : IRl M 43 38) : ∃ w M1 M2 c' e', px_ex px_tab (d + 54) 146 [Value.ref (13)] (hp (M) (J) (R) (43) (38) nL xs (D)) = some (some (Value.int (w)), (hp (M1) (J) (R) (c') (e') nL xs (D))) ∧ px_ex px_tab (d + 54) 227 [Value.ref (67)] (hp (M1) (J) (R) (c') (e') nL xs (D)) = some (some (Value.int (w)), (hp (M2) (J) (R) (c') (e') nL xs (D))) ∧ ITx M2 ∧ IRl M2 c' e' ∧ frm [37, 38, 39, 40, 41, 43, 44, 45, 46, 96, 97, 98] [37, 38, 55, 56, 57, 58, 59, 60, 61, 62, 63] M M2 := by
  obtain ⟨n, hn, h37, h67, hrow⟩ := hT
  have hX95 : TX (fun i => (M 95 i).toNatClampNeg) n (M 95) := fun i hi => by
    obtain ⟨_, j, hj, ej⟩ := hrow i hi
    show (M 95 i).toNatClampNeg < 256 ∧ M 95 i = nI (M 95 i).toNatClampNeg
    rw [ej, nI_clamp (by omega)]
    exact ⟨hj, rfl⟩
  have hX48 : TX (fun i => (M 95 i).toNatClampNeg) n (M 48) := fun i hi => by
    obtain ⟨k1, k2⟩ := hX95 i hi
    exact ⟨k1, ((hrow i hi).1).trans k2⟩
  generalize (fun i => (M 95 i).toNatClampNeg) = T at hX95 hX48
  have V0 : PV n ((0, 0, 0, 0, 0, fun _ => 0, fun _ => 0) : PS) := ⟨Nat.le_refl _, Nat.zero_le _, hn, Nat.zero_le _, fun q => absurd rfl q, Nat.le_refl _, fun i hi => by
    have hi' : i < 0 := hi
    omega⟩
  have V1 := (nx_V T V0).1
  have hCT : CT T n (px_uR (px_uR M 37 (upd (M 37) 5 0)) 38 (upd (upd (M 38) 0 0) 1 0)) := ⟨h37, hX48⟩
  obtain ⟨Mn, n1, n2, n3⟩ := c_next_43 (d + 49) J R nL xs D hn (a := 0) (Nat.zero_le _) _ hCT rfl
  have cE : Mn 38 = upd (upd (M 38) 0 0) 1 0 := n2.1.1 38 (by decide) (by decide)
  have CP1 : CP 38 T n (nx T n (0, 0, 0, 0, 0, fun _ => 0, fun _ => 0)) Mn := by
    refine ⟨n2.ct hCT, n3, ?_, fun i hi => ?_⟩
    · rw [cE]
      exact pk_us
    · have hi' : i < 0 := hi
      omega
  have CB1 : CB 38 0 (fun _ => 0) Mn := by
    refine ⟨?_, fun i hi => by omega⟩
    rw [cE, pk_un (by decide)]
    exact pk_us
  have f0 : frm [37, 38, 38 + 1, 38 + 2, 38 + 3] [] M Mn := (((frm.rf [37, 38, 38 + 1, 38 + 2, 38 + 3] [] M).u 37 (upd (M 37) 5 0) (by decide) (by decide)).u 38 (upd (upd (M 38) 0 0) 1 0) (by decide) (by decide)).tr (n2.1.mono (by simp) (by simp))
  have cl : ∀ (M1 : Nat → Nat → Int32) (w : Int32), px_run (px_mk (kX5_readBars (px_ex px_tab (d + 51)))) 2 ([some (Value.ref (37)), some (Value.int (nI 0))], [], (hp (Mn) (J) (R) (43) (38) nL xs (D))) = some (some (Value.int (w)), (hp (M1) (J) (R) (43) (38) nL xs (D))) → px_ex px_tab (d + 54) 146 [Value.ref (13)] (hp (M) (J) (R) (43) (38) nL xs (D)) = px_bd (px_p (kX5_readAll (px_ex px_tab (d + 52))) 0 10 ([some (Value.ref (37)), none, none], [Value.int (w)], (hp (M1) (J) (R) (43) (38) nL xs (D)))) (fun v G1 => px_p (kX11_rule (px_ex px_tab (d + 53))) 0 3 ([some (.ref 13)], px_psh v [], G1)) := by
    intro M1 w hr
    have hr' : px_ex px_tab (d + 52) 51 [Value.ref (37)] (hp (Mn) (J) (R) (43) (38) nL xs (D)) = some (some (Value.int (w)), (hp (M1) (J) (R) (43) (38) nL xs (D))) := by
      rw [xX5_readBars, eX5_readBars_43_0]
      exact hr
    have hc : px_ex px_tab (d + 52) 39 [Value.ref (38)] (hp (px_uR M 37 (upd (M 37) 5 0)) (J) (R) (43) (38) nL xs (D)) = some (none, (hp (px_uR (px_uR M 37 (upd (M 37) 5 0)) 38 (upd (upd (M 38) 0 0) 1 0)) (J) (R) (43) (38) nL xs (D))) := by
      rw [xX4_clear, eX4_clear_38_0]
      rfl
    rw [xX11_rule, eX11_rule_0, xX5_readAll, eX5_readAll_43_0, hc]
    simp only [px_bd_s, px_psh_s, px_psh_n, px_vb_s, px_ib_s, px_wb_s, px_bo_s, px_bo_n, Bool.cond_decide, cond_true, cond_false, ite_not, Bool.and_true, if_true, if_false, not_true_eq_false, not_false_eq_true, i10, eq_self, decide_true, decide_false, Bool.or_true, Bool.true_or, Bool.or_false, Bool.false_or, Bool.false_eq_true, eX5_readAll_43_0_6, n1, eX5_readAll_43_0_8, hr']
  rcases r_bars_43 J R nL xs D hn (T := T) 6 0 _ (fun _ => 0) rfl V1 ⟨Nat.zero_le _, rfl, rfl, fun i hi => by omega⟩ with ⟨S', nb, pt, sV, sB, xc, xm⟩ | ⟨b, hb, xc, xm⟩
  · obtain ⟨Mb, a1, a2, a3, a4⟩ := xc (d + 51) Mn (by omega) CP1 CB1
    have fb : frm [37, 38, 38 + 1, 38 + 2, 38 + 3] [] M (px_uR Mb 37 (upd (Mb 37) 2 0)) := (f0.tr a4.1).u 37 _ (by decide) (by decide)
    have b95 : px_uR Mb 37 (upd (Mb 37) 2 0) 95 = M 95 := fb.1 95 (by decide) (by decide)
    obtain ⟨Mm, m1, m2, m3, m4, m5, m6⟩ := m_first d J R nL xs D hn 38 43 (px_uR Mb 37 (upd (Mb 37) 2 0)) (by rw [b95]; exact hX95) (hW.fr fb (by decide)) ((fb.2 37 (by decide)).trans h67)
    obtain ⟨Mr, r1, r2, r3, r4, r5⟩ := xm 38 43 (d + 52) Mm (by omega) m2 m3 m4 (fun i hi => by omega)
    have s6 := sB.1
    have sn : Pn S' ≤ 160 := by have := sV.1; have := sV.2.1; have := sV.2.2.2.2.2.1; omega
    obtain ⟨M3, u1, u2, u3, u4⟩ := m_cp_l (d + 53) J R 38 43 nL xs D sn (nb := nb) (Pn S') 0 (px_uR Mr 67 (upd (Mr 67) 38 (nI nb))) (by omega) r2.1
    obtain ⟨M4, w1, w2, w3, w4⟩ := m_pt_l (d + 53) J R 38 43 nL xs D s6 (nb + 1) 0 M3 (by omega)
    have a30 : Mb 38 0 = nI nb := a3.1
    refine ⟨nI nb, px_uR Mb 37 (upd (Mb 37) 2 0), M4, 38, 43, ?_, ?_, ?_, ?_, ?_⟩
    · rw [cl Mb 1 a1]
      have e0 : px_uR Mb 37 (upd (Mb 37) 2 0) 38 0 = nI nb := a30
      simp only [px_bd_s, px_psh_s, px_psh_n, px_vb_s, px_ib_s, px_wb_s, px_bo_s, px_bo_n, Bool.cond_decide, cond_true, cond_false, ite_not, Bool.and_true, if_true, if_false, not_true_eq_false, not_false_eq_true, i10, eq_self, decide_true, decide_false, Bool.or_true, Bool.true_or, Bool.or_false, Bool.false_or, Bool.false_eq_true, eX5_readAll_43_0_10, eX5_readAll_43_38, e0, eX11_rule_0_3]
    · have wn := m_wr_n J R nL xs D 38 43 (d := d + 53) (by omega) r5
      rw [m1, show px_run (px_mk (kX12_reads (px_ex px_tab (d + 52)))) 31 ([some (Value.ref (67)), some (Value.int (0))], [], (hp (Mm) (J) (R) (38) (43) nL xs (D))) = _ from r1]
      simp only [px_bd_s, px_psh_s, px_psh_n, px_vb_s, px_ib_s, px_wb_s, px_bo_s, px_bo_n, Bool.cond_decide, cond_true, cond_false, ite_not, Bool.and_true, if_true, if_false, not_true_eq_false, not_false_eq_true, i10, eq_self, decide_true, decide_false, Bool.or_true, Bool.true_or, Bool.or_false, Bool.false_or, Bool.false_eq_true, eX12_rule_0_9, wn, eX12_rule_0_12, eX12_rule_33]
      exact (show _ = _ from u1).trans w1
    · have e1 : M4 67 37 = 0 := by
        rw [w2.2 37 (by decide), u2.2 37 (by decide)]
        show upd (Mr 67) 38 (nI nb) 37 = 0
        rw [pk_un (by decide), r4.1.2 37 (by decide)]
        exact m6
      have e2 : M4 37 2 = 0 := by
        rw [w2.1 37 (by decide) (by decide), u2.1 37 (by decide) (by decide)]
        show Mr 37 2 = 0
        rw [r4.1.1 37 (by decide) (by decide), m5.1 37 (by decide) (by decide)]
        rfl
      exact ⟨0, Nat.zero_le _, e2, e1, fun i hi => by omega⟩
    · have k0 : ∀ i, i < Pn S' → M4 96 i = nI (Pc S' i) ∧ M4 97 i = Pl S' i := fun i hi => by
        rw [w2.1 96 (by decide) (by decide), w2.1 97 (by decide) (by decide), (u3 i (Nat.zero_le _) hi).1, (u3 i (Nat.zero_le _) hi).2]
        exact r2.2 i hi
      have kc : ∀ i, i < Pn S' → cdf (M4 96) i = Pc S' i := fun i hi => by
        have := sV.2.2.2.2.2.2 i hi
        unfold cdf
        rw [(k0 i hi).1, nI_clamp (by omega)]
      have kr : ∀ a, a ≠ 67 → a ∉ [96, 97, 98] → a ≠ 37 → M4 a = Mb a := fun a h1 h2 h3 => by
        rw [w2.1 a h1 (fun q => h2 (by simp at q ⊢; omega)), u2.1 a h1 (fun q => h2 (by simp at q ⊢; omega))]
        show px_uR Mr 67 (upd (Mr 67) 38 (nI nb)) a = Mb a
        rw [px_uR_n _ _ _ _ h1, r4.1.1 a h1 (fun q => h2 (by simp at q ⊢; omega)), m5.1 a h1 (by simp), px_uR_n _ _ _ _ h3]
      have e38 : M4 67 38 = nI nb := by
        rw [w2.2 38 (by decide), u2.2 38 (by decide)]
        show upd (Mr 67) 38 (nI nb) 38 = nI nb
        exact pk_us
      have e98 : ∀ i, i ≤ nb → M4 98 i = nI (pt i) := fun i hi => by
        rw [w3 i (Nat.zero_le _) hi, u2.1 98 (by decide) (by decide)]
        exact r3 i (by omega)
      have mono : ∀ i, i ≤ nb → pt i ≤ pt nb := fun i hi => by
        rcases Nat.lt_or_ge i nb with q | q
        · have z := sB.2.2.2 i q
          rw [sB.2.2.1]
          omega
        · rw [show i = nb from by omega]
          exact Nat.le_refl _
      have irc : IRc nb pt (M4 38 0) (M4 67 38) (M4 39) (M4 40) (M4 41) (M4 96) (M4 97) (M4 98) := by
        rw [kr 38 (by decide) (by decide) (by decide), kr 39 (by decide) (by decide) (by decide), kr 40 (by decide) (by decide) (by decide), kr 41 (by decide) (by decide) (by decide)]
        refine ⟨s6, a30, e38, sB.2.1, fun b hb => ⟨e98 b hb, mono b hb⟩, by rw [sB.2.2.1]; exact sn, fun b hb => ⟨a3.2 b hb, (sB.2.2.2 b hb).1, ?_⟩, fun i hi => ?_⟩
        · have z := sB.2.2.2 b hb
          exact wfR_c _ _ _ (fun i i1 i2 => (kc i (by omega)).symm) z.2.2
        · rw [sB.2.2.1] at hi
          rw [kc i hi, (k0 i hi).1, (k0 i hi).2]
          exact ⟨(a2.2.2.2 i hi).1, (a2.2.2.2 i hi).2, rfl⟩
      first
        | exact Or.inr ⟨rfl, rfl, nb, pt, irc⟩
        | exact Or.inl ⟨rfl, rfl, nb, pt, irc⟩
    · have g1 : frm [37, 38, 39, 40, 41, 43, 44, 45, 46, 96, 97, 98] [37, 38, 55, 56, 57, 58, 59, 60, 61, 62, 63] M (px_uR Mb 37 (upd (Mb 37) 2 0)) := fb.mono (by decide) (by decide)
      have g2 : frm [37, 38, 39, 40, 41, 43, 44, 45, 46, 96, 97, 98] [37, 38, 55, 56, 57, 58, 59, 60, 61, 62, 63] (px_uR Mb 37 (upd (Mb 37) 2 0)) Mm := m5.mono (by decide) (by decide)
      have g3 : frm [37, 38, 39, 40, 41, 43, 44, 45, 46, 96, 97, 98] [37, 38, 55, 56, 57, 58, 59, 60, 61, 62, 63] Mm Mr := r4.1.mono (by decide) (by decide)
      have g4 : frm [37, 38, 39, 40, 41, 43, 44, 45, 46, 96, 97, 98] [37, 38, 55, 56, 57, 58, 59, 60, 61, 62, 63] Mr (px_uR Mr 67 (upd (Mr 67) 38 (nI nb))) := (frm.rf _ _ _).k 38 _ (by decide)
      exact ((((g1.tr g2).tr g3).tr g4).tr (u2.mono (by decide) (by decide))).tr (w2.mono (by decide) (by decide))
  · obtain ⟨Mb, a1, a2, a4⟩ := xc (d + 51) Mn (by omega) CP1 CB1
    have fb : frm [37, 38, 38 + 1, 38 + 2, 38 + 3] [] M (px_uR Mb 37 (upd (Mb 37) 2 0)) := (f0.tr a4.1).u 37 _ (by decide) (by decide)
    have b95 : px_uR Mb 37 (upd (Mb 37) 2 0) 95 = M 95 := fb.1 95 (by decide) (by decide)
    obtain ⟨Mm, m1, m2, m3, m4, m5, m6⟩ := m_first d J R nL xs D hn 43 38 (px_uR Mb 37 (upd (Mb 37) 2 0)) (by rw [b95]; exact hX95) (hW.fr fb (by decide)) ((fb.2 37 (by decide)).trans h67)
    obtain ⟨Mr, w, r1, r4, r5⟩ := xm 43 38 (d + 52) Mm (by omega) m2 m3 m4 (fun i hi => by omega)
    have wy := m_wr_y J R nL xs D 43 38 (d := d + 53) (by omega) (show b ≤ 160 by omega) r5
    refine ⟨-100 - nI b, px_uR Mb 37 (upd (Mb 37) 2 0), Mr, 43, 38, ?_, ?_, ?_, ?_, ?_⟩
    · rw [cl Mb 0 a1]
      simp only [px_bd_s, px_psh_s, px_psh_n, px_vb_s, px_ib_s, px_wb_s, px_bo_s, px_bo_n, Bool.cond_decide, cond_true, cond_false, ite_not, Bool.and_true, if_true, if_false, not_true_eq_false, not_false_eq_true, i10, eq_self, decide_true, decide_false, Bool.or_true, Bool.true_or, Bool.or_false, Bool.false_or, Bool.false_eq_true, eX5_readAll_43_0_10, a2, eX11_rule_0_3]
    · rw [m1, show px_run (px_mk (kX12_reads (px_ex px_tab (d + 52)))) 31 ([some (Value.ref (67)), some (Value.int (0))], [], (hp (Mm) (J) (R) (43) (38) nL xs (D))) = _ from r1]
      simp only [px_bd_s, px_psh_s, px_psh_n, px_vb_s, px_ib_s, px_wb_s, px_bo_s, px_bo_n, Bool.cond_decide, cond_true, cond_false, ite_not, Bool.and_true, if_true, if_false, not_true_eq_false, not_false_eq_true, i10, eq_self, decide_true, decide_false, Bool.or_true, Bool.true_or, Bool.or_false, Bool.false_or, Bool.false_eq_true, eX12_rule_0_9, wy, eX12_rule_0_12, r5]
    · have e1 : Mr 67 37 = 0 := by
        rw [r4.1.2 37 (by decide)]
        exact m6
      have e2 : Mr 37 2 = 0 := by
        rw [r4.1.1 37 (by decide) (by decide), m5.1 37 (by decide) (by decide)]
        rfl
      exact ⟨0, Nat.zero_le _, e2, e1, fun i hi => by omega⟩
    · have kr : ∀ a, a ≠ 67 → a ∉ [96, 97, 98] → a ∉ [37, 38, 38 + 1, 38 + 2, 38 + 3] → Mr a = M a := fun a h1 h2 h3 => by
        rw [r4.1.1 a h1 h2, m5.1 a h1 (by simp), fb.1 a h1 h3]
      have e38 : Mr 67 38 = M 67 38 := by
        rw [r4.1.2 38 (by decide), m5.2 38 (by decide), fb.2 38 (by decide)]
      have e96 : ∀ i, i < 160 → Mr 96 i = M 96 i ∧ Mr 97 i = M 97 i := fun i hi => by
        rw [(r4.2.1 i hi).1, (r4.2.1 i hi).2, m5.1 96 (by decide) (by simp), m5.1 97 (by decide) (by simp), fb.1 96 (by decide) (by decide), fb.1 97 (by decide) (by decide)]
        exact ⟨rfl, rfl⟩
      have e98 : ∀ i, i < 8 → Mr 98 i = M 98 i := fun i hi => by
        rw [r4.2.2 i hi, m5.1 98 (by decide) (by simp), fb.1 98 (by decide) (by decide)]
      have irc : ∀ nb pt, IRc nb pt (M 43 0) (M 67 38) (M 44) (M 45) (M 46) (M 96) (M 97) (M 98) → IRc nb pt (Mr 43 0) (Mr 67 38) (Mr 44) (Mr 45) (Mr 46) (Mr 96) (Mr 97) (Mr 98) := fun nb pt h => by
        rw [kr 43 (by decide) (by decide) (by decide), kr 44 (by decide) (by decide) (by decide), kr 45 (by decide) (by decide) (by decide), kr 46 (by decide) (by decide) (by decide), e38]
        exact IRc_c h e96 e98
      rcases hR with ⟨q1, q2, nb, pt, h1⟩ | ⟨q1, q2, nb, pt, h1⟩
      · first
          | (exfalso; revert q1; decide)
          | exact Or.inl ⟨rfl, rfl, nb, pt, irc nb pt h1⟩
      · first
          | (exfalso; revert q1; decide)
          | exact Or.inr ⟨rfl, rfl, nb, pt, irc nb pt h1⟩
    · exact ((fb.mono (by decide) (by decide)).tr (m5.mono (by decide) (by decide))).tr (r4.1.mono (by decide) (by decide))
end S89b
section S89c
variable (d : Nat) (M : Nat → Nat → Int32) (J : Nat → Nat → Int64) (R : Nat → Nat → Option Nat) (c e nL : Nat) (xs : Nat → Int32) (D : px_H)
theorem t_rule (hT : ITx M) (hW : IWd M) (hR : IRl M c e) : ∃ w M1 M2 c' e', px_ex px_tab (d + 54) 146 [Value.ref (13)] (hp (M) (J) (R) (c) (e) nL xs (D)) = some (some (Value.int (w)), (hp (M1) (J) (R) (c') (e') nL xs (D))) ∧ px_ex px_tab (d + 54) 227 [Value.ref (67)] (hp (M1) (J) (R) (c') (e') nL xs (D)) = some (some (Value.int (w)), (hp (M2) (J) (R) (c') (e') nL xs (D))) ∧ ITx M2 ∧ IRl M2 c' e' ∧ frm [37, 38, 39, 40, 41, 43, 44, 45, 46, 96, 97, 98] [37, 38, 55, 56, 57, 58, 59, 60, 61, 62, 63] M M2 := by
  rcases id hR with ⟨rfl, rfl, _⟩ | ⟨rfl, rfl, _⟩
  · exact t_rule_38 d J R nL xs D M hT hW hR
  · exact t_rule_43 d J R nL xs D M hT hW hR
end S89c
