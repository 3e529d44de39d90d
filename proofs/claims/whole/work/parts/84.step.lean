/-! PART 84: READING: a token on, a code more, on both sides -/
section S84
variable (J : Nat → Nat → Int64) (R : Nat → Nat → Option Nat) (nL : Nat) (xs : Nat → Int32) (D : px_H)
theorem c_nx_38 {T : Nat → Nat} {n d : Nat} (hd : 3 ≤ d) {S : PS} (ha : Pa S ≤ n) (hn : n ≤ 160) {M : Nat → Nat → Int32} (h : CP 43 T n S M) : ∃ M1, px_ex px_tab (d) 61 [Value.ref (37)] (hp (M) (J) (R) (38) (43) nL xs (D)) = some (none, (hp (M1) (J) (R) (38) (43) nL xs (D))) ∧ CP 43 T n (nx T n S) M1 ∧ CF 43 M M1 := by
  obtain ⟨d, rfl⟩ : ∃ d', d = d' + 3 := ⟨d - 3, by omega⟩
  obtain ⟨M1, q1, q2, q3⟩ := c_next_38 d J R nL xs D hn ha M h.1 h.2.1.2.1
  refine ⟨M1, q1, ⟨q2.ct h.1, q3, ?_, fun i hi => ?_⟩, q2.1.mono (by simp) (by simp), q2.2, fun k _ => ?_⟩
  · rw [q2.1.1 43 (by decide) (by decide)]
    exact h.2.2.1
  · rw [q2.1.1 (43 + 2) (by decide) (by decide), q2.1.1 (43 + 3) (by decide) (by decide)]
    exact h.2.2.2 i hi
  · rw [q2.1.1 43 (by decide) (by decide)]
theorem c_em_38 {T : Nat → Nat} {n d : Nat} (hd : 1 ≤ d) {S : PS} (hN : Pn S < 160) {M : Nat → Nat → Int32} (h : CP 43 T n S M) (j : Nat) (v : Int32) : ∃ M1, px_ex px_tab (d) 40 [Value.ref (43), Value.int (nI (cls j)), Value.int (v)] (hp (M) (J) (R) (38) (43) nL xs (D)) = some (none, (hp (M1) (J) (R) (38) (43) nL xs (D))) ∧ CP 43 T n (em S j v) M1 ∧ CF 43 M M1 := by
  obtain ⟨d, rfl⟩ : ∃ d', d = d' + 1 := ⟨d - 1, by omega⟩
  refine ⟨px_uR (px_uR (px_uR M 45 (upd (M 45) (Pn S) (nI (cls j)))) 46 (upd (M 46) (Pn S) v)) 43 (upd (M 43) 1 (nI (Pn S + 1))), ?_, ⟨h.1, h.2.1, ?_, fun i hi => ?_⟩, ?_, fun k _ => rfl, fun k hk => ?_⟩
  · have h1 : M 43 1 = nI (Pn S) := h.2.2.1
    rw [xX4_add, eX4_add_43_0, h1]
    simp (disch := omega) only [px_bd_s, px_psh_s, px_psh_n, px_vb_s, px_ib_s, px_wb_s, px_bo_s, px_bo_n, Bool.cond_decide, cond_true, cond_false, ite_not, Bool.and_true, if_true, if_false, not_true_eq_false, not_false_eq_true, i10, eq_self, decide_true, decide_false, Bool.or_true, Bool.true_or, Bool.or_false, Bool.false_or, Bool.false_eq_true, za160, if_neg, px_inbT, nI_clamp, zp1, eX4_add_43_40]
  · show upd (M 43) 1 (nI (Pn S + 1)) 1 = nI (Pn S + 1)
    exact pk_us
  · have hi' : i < Pn S + 1 := hi
    show upd (M 45) (Pn S) (nI (cls j)) i = nI (cls (ups' (Pc S) (Pn S) j i)) ∧ upd (M 46) (Pn S) v i = ups' (Pl S) (Pn S) v i
    by_cases e : i = Pn S
    · subst e
      rw [pk_us, pk_us, ups'_s, ups'_s]
      exact ⟨rfl, rfl⟩
    · rw [pk_un e, pk_un e, ups'_n _ _ e, ups'_n _ _ e]
      exact h.2.2.2 i (by omega)
  · exact (((frm.rf [37, 43, 43 + 2, 43 + 3] [] M).u 45 _ (by decide) (by decide)).u 46 _ (by decide) (by decide)).u 43 _ (by decide) (by decide)
  · show upd (M 43) 1 (nI (Pn S + 1)) k = M 43 k
    exact pk_un hk
theorem c_em_f_38 {T : Nat → Nat} {n d b : Nat} (hd : 1 ≤ d) {M : Nat → Nat → Int32} (h : CN 43 T n b M) (w v : Int32) : ∃ M1, px_ex px_tab (d) 40 [Value.ref (43), Value.int (w), Value.int (v)] (hp (M) (J) (R) (38) (43) nL xs (D)) = some (none, (hp (M1) (J) (R) (38) (43) nL xs (D))) ∧ CN 43 T n b M1 ∧ CF 43 M M1 := by
  obtain ⟨d, rfl⟩ : ∃ d', d = d' + 1 := ⟨d - 1, by omega⟩
  obtain ⟨h1, h2, N, h3, h4⟩ := h
  by_cases hN : N < 160
  · refine ⟨px_uR (px_uR (px_uR M 45 (upd (M 45) N w)) 46 (upd (M 46) N v)) 43 (upd (M 43) 1 (nI (N + 1))), ?_, ⟨h1, h2, N + 1, by omega, ?_⟩, ?_, fun k _ => rfl, fun k hk => ?_⟩
    · rw [xX4_add, eX4_add_43_0, h4]
      simp (disch := omega) only [px_bd_s, px_psh_s, px_psh_n, px_vb_s, px_ib_s, px_wb_s, px_bo_s, px_bo_n, Bool.cond_decide, cond_true, cond_false, ite_not, Bool.and_true, if_true, if_false, not_true_eq_false, not_false_eq_true, i10, eq_self, decide_true, decide_false, Bool.or_true, Bool.true_or, Bool.or_false, Bool.false_or, Bool.false_eq_true, za160, if_neg, px_inbT, nI_clamp, zp1, eX4_add_43_40]
    · show upd (M 43) 1 (nI (N + 1)) 1 = nI (N + 1)
      exact pk_us
    · exact (((frm.rf [37, 43, 43 + 2, 43 + 3] [] M).u 45 _ (by decide) (by decide)).u 46 _ (by decide) (by decide)).u 43 _ (by decide) (by decide)
    · show upd (M 43) 1 (nI (N + 1)) k = M 43 k
      exact pk_un hk
  · refine ⟨M, ?_, ⟨h1, h2, N, h3, h4⟩, CF.rf _ _⟩
    rw [xX4_add, eX4_add_43_0, h4]
    simp (disch := omega) only [px_bd_s, px_psh_s, px_psh_n, px_vb_s, px_ib_s, px_wb_s, px_bo_s, px_bo_n, Bool.cond_decide, cond_true, cond_false, ite_not, Bool.and_true, if_true, if_false, not_true_eq_false, not_false_eq_true, i10, eq_self, decide_true, decide_false, Bool.or_true, Bool.true_or, Bool.or_false, Bool.false_or, Bool.false_eq_true, za160, if_pos, eX4_add_43_40]
theorem c_nx_43 {T : Nat → Nat} {n d : Nat} (hd : 3 ≤ d) {S : PS} (ha : Pa S ≤ n) (hn : n ≤ 160) {M : Nat → Nat → Int32} (h : CP 38 T n S M) : ∃ M1, px_ex px_tab (d) 61 [Value.ref (37)] (hp (M) (J) (R) (43) (38) nL xs (D)) = some (none, (hp (M1) (J) (R) (43) (38) nL xs (D))) ∧ CP 38 T n (nx T n S) M1 ∧ CF 38 M M1 := by
  obtain ⟨d, rfl⟩ : ∃ d', d = d' + 3 := ⟨d - 3, by omega⟩
  obtain ⟨M1, q1, q2, q3⟩ := c_next_43 d J R nL xs D hn ha M h.1 h.2.1.2.1
  refine ⟨M1, q1, ⟨q2.ct h.1, q3, ?_, fun i hi => ?_⟩, q2.1.mono (by simp) (by simp), q2.2, fun k _ => ?_⟩
  · rw [q2.1.1 38 (by decide) (by decide)]
    exact h.2.2.1
  · rw [q2.1.1 (38 + 2) (by decide) (by decide), q2.1.1 (38 + 3) (by decide) (by decide)]
    exact h.2.2.2 i hi
  · rw [q2.1.1 38 (by decide) (by decide)]
theorem c_em_43 {T : Nat → Nat} {n d : Nat} (hd : 1 ≤ d) {S : PS} (hN : Pn S < 160) {M : Nat → Nat → Int32} (h : CP 38 T n S M) (j : Nat) (v : Int32) : ∃ M1, px_ex px_tab (d) 40 [Value.ref (38), Value.int (nI (cls j)), Value.int (v)] (hp (M) (J) (R) (43) (38) nL xs (D)) = some (none, (hp (M1) (J) (R) (43) (38) nL xs (D))) ∧ CP 38 T n (em S j v) M1 ∧ CF 38 M M1 := by
  obtain ⟨d, rfl⟩ : ∃ d', d = d' + 1 := ⟨d - 1, by omega⟩
  refine ⟨px_uR (px_uR (px_uR M 40 (upd (M 40) (Pn S) (nI (cls j)))) 41 (upd (M 41) (Pn S) v)) 38 (upd (M 38) 1 (nI (Pn S + 1))), ?_, ⟨h.1, h.2.1, ?_, fun i hi => ?_⟩, ?_, fun k _ => rfl, fun k hk => ?_⟩
  · have h1 : M 38 1 = nI (Pn S) := h.2.2.1
    rw [xX4_add, eX4_add_38_0, h1]
    simp (disch := omega) only [px_bd_s, px_psh_s, px_psh_n, px_vb_s, px_ib_s, px_wb_s, px_bo_s, px_bo_n, Bool.cond_decide, cond_true, cond_false, ite_not, Bool.and_true, if_true, if_false, not_true_eq_false, not_false_eq_true, i10, eq_self, decide_true, decide_false, Bool.or_true, Bool.true_or, Bool.or_false, Bool.false_or, Bool.false_eq_true, za160, if_neg, px_inbT, nI_clamp, zp1, eX4_add_38_40]
  · show upd (M 38) 1 (nI (Pn S + 1)) 1 = nI (Pn S + 1)
    exact pk_us
  · have hi' : i < Pn S + 1 := hi
    show upd (M 40) (Pn S) (nI (cls j)) i = nI (cls (ups' (Pc S) (Pn S) j i)) ∧ upd (M 41) (Pn S) v i = ups' (Pl S) (Pn S) v i
    by_cases e : i = Pn S
    · subst e
      rw [pk_us, pk_us, ups'_s, ups'_s]
      exact ⟨rfl, rfl⟩
    · rw [pk_un e, pk_un e, ups'_n _ _ e, ups'_n _ _ e]
      exact h.2.2.2 i (by omega)
  · exact (((frm.rf [37, 38, 38 + 2, 38 + 3] [] M).u 40 _ (by decide) (by decide)).u 41 _ (by decide) (by decide)).u 38 _ (by decide) (by decide)
  · show upd (M 38) 1 (nI (Pn S + 1)) k = M 38 k
    exact pk_un hk
theorem c_em_f_43 {T : Nat → Nat} {n d b : Nat} (hd : 1 ≤ d) {M : Nat → Nat → Int32} (h : CN 38 T n b M) (w v : Int32) : ∃ M1, px_ex px_tab (d) 40 [Value.ref (38), Value.int (w), Value.int (v)] (hp (M) (J) (R) (43) (38) nL xs (D)) = some (none, (hp (M1) (J) (R) (43) (38) nL xs (D))) ∧ CN 38 T n b M1 ∧ CF 38 M M1 := by
  obtain ⟨d, rfl⟩ : ∃ d', d = d' + 1 := ⟨d - 1, by omega⟩
  obtain ⟨h1, h2, N, h3, h4⟩ := h
  by_cases hN : N < 160
  · refine ⟨px_uR (px_uR (px_uR M 40 (upd (M 40) N w)) 41 (upd (M 41) N v)) 38 (upd (M 38) 1 (nI (N + 1))), ?_, ⟨h1, h2, N + 1, by omega, ?_⟩, ?_, fun k _ => rfl, fun k hk => ?_⟩
    · rw [xX4_add, eX4_add_38_0, h4]
      simp (disch := omega) only [px_bd_s, px_psh_s, px_psh_n, px_vb_s, px_ib_s, px_wb_s, px_bo_s, px_bo_n, Bool.cond_decide, cond_true, cond_false, ite_not, Bool.and_true, if_true, if_false, not_true_eq_false, not_false_eq_true, i10, eq_self, decide_true, decide_false, Bool.or_true, Bool.true_or, Bool.or_false, Bool.false_or, Bool.false_eq_true, za160, if_neg, px_inbT, nI_clamp, zp1, eX4_add_38_40]
    · show upd (M 38) 1 (nI (N + 1)) 1 = nI (N + 1)
      exact pk_us
    · exact (((frm.rf [37, 38, 38 + 2, 38 + 3] [] M).u 40 _ (by decide) (by decide)).u 41 _ (by decide) (by decide)).u 38 _ (by decide) (by decide)
    · show upd (M 38) 1 (nI (N + 1)) k = M 38 k
      exact pk_un hk
  · refine ⟨M, ?_, ⟨h1, h2, N, h3, h4⟩, CF.rf _ _⟩
    rw [xX4_add, eX4_add_38_0, h4]
    simp (disch := omega) only [px_bd_s, px_psh_s, px_psh_n, px_vb_s, px_ib_s, px_wb_s, px_bo_s, px_bo_n, Bool.cond_decide, cond_true, cond_false, ite_not, Bool.and_true, if_true, if_false, not_true_eq_false, not_false_eq_true, i10, eq_self, decide_true, decide_false, Bool.or_true, Bool.true_or, Bool.or_false, Bool.false_or, Bool.false_eq_true, za160, if_pos, eX4_add_38_40]
variable (c e : Nat)
theorem MK.f {M M1 : Nat → Nat → Int32} (h : MK M M1) : MF M M1 := ⟨frm.mono h (by simp) (by simp), fun i _ => by rw [h.1 96 (by decide) (by decide), h.1 97 (by decide) (by decide)]; exact ⟨rfl, rfl⟩⟩
theorem m_nx {T : Nat → Nat} {n d : Nat} (hd : 3 ≤ d) {S : PS} (ha : Pa S ≤ n) (hn : n ≤ 160) {M : Nat → Nat → Int32} (h : MP T n S M) : ∃ M1, px_ex px_tab (d) 211 [Value.ref (67)] (hp (M) (J) (R) (c) (e) nL xs (D)) = some (none, (hp (M1) (J) (R) (c) (e) nL xs (D))) ∧ MP T n (nx T n S) M1 ∧ MF M M1 ∧ M1 67 61 = M 67 61 ∧ M1 67 62 = M 67 62 := by
  obtain ⟨d, rfl⟩ : ∃ d', d = d' + 3 := ⟨d - 3, by omega⟩
  obtain ⟨M1, q1, q2, q3⟩ := m_next d J R c e nL xs D hn ha M h.1 h.2.1 h.2.2.1.2.1
  refine ⟨M1, q1, ⟨q2.mt h.1, q2.wd h.2.1, q3, ?_, ?_, fun i hi => ?_⟩, q2.f, q2.2 61 (by decide), q2.2 62 (by decide)⟩
  · rw [q2.2 56 (by decide)]
    exact h.2.2.2.1
  · rw [q2.2 63 (by decide)]
    exact h.2.2.2.2.1
  · rw [q2.1 96 (by decide) (by decide), q2.1 97 (by decide) (by decide)]
    exact h.2.2.2.2.2 i hi
theorem m_em_g {d N : Nat} (hd : 1 ≤ d) (hN : N < 160) {M : Nat → Nat → Int32} (h : MN N M) (w v : Int32) : px_ex px_tab (d) 218 [Value.ref (67), Value.int (w), Value.int (v)] (hp (M) (J) (R) (c) (e) nL xs (D)) = some (none, (hp (px_uR (px_uR (px_uR M 96 (upd (M 96) (160 + N) w)) 97 (upd (M 97) (160 + N) v)) 67 (upd (M 67) 63 (nI (N + 1)))) (J) (R) (c) (e) nL xs (D))) ∧ MF M (px_uR (px_uR (px_uR M 96 (upd (M 96) (160 + N) w)) 97 (upd (M 97) (160 + N) v)) 67 (upd (M 67) 63 (nI (N + 1)))) := by
  obtain ⟨d, rfl⟩ : ∃ d', d = d' + 1 := ⟨d - 1, by omega⟩
  refine ⟨?_, ?_, fun i hi => ?_⟩
  · have e1 : (160 : Int32) * 1 + nI N = nI (160 + N) := nI_add 160 N
    rw [xX12_emit, eX12_emit_0, h.1, h.2, e1]
    simp (disch := omega) only [px_bd_s, px_psh_s, px_psh_n, px_vb_s, px_ib_s, px_wb_s, px_bo_s, px_bo_n, Bool.cond_decide, cond_true, cond_false, ite_not, Bool.and_true, if_true, if_false, not_true_eq_false, not_false_eq_true, i10, eq_self, decide_true, decide_false, Bool.or_true, Bool.true_or, Bool.or_false, Bool.false_or, Bool.false_eq_true, px_inbT, nI_clamp, zp1]
  · exact (((frm.rf [96, 97] [57, 58, 59, 60, 61, 62, 63] M).u 96 _ (by decide) (by decide)).u 97 _ (by decide) (by decide)).k 63 _ (by decide)
  · show upd (M 96) (160 + N) w i = M 96 i ∧ upd (M 97) (160 + N) v i = M 97 i
    rw [pk_un (by omega), pk_un (by omega)]
    exact ⟨rfl, rfl⟩
theorem m_em {T : Nat → Nat} {n d : Nat} (hd : 1 ≤ d) {S : PS} (hN : Pn S < 160) {M : Nat → Nat → Int32} (h : MP T n S M) (j : Nat) (v : Int32) : ∃ M1, px_ex px_tab (d) 218 [Value.ref (67), Value.int (nI j), Value.int (v)] (hp (M) (J) (R) (c) (e) nL xs (D)) = some (none, (hp (M1) (J) (R) (c) (e) nL xs (D))) ∧ MP T n (em S j v) M1 ∧ MF M M1 ∧ M1 67 61 = M 67 61 ∧ M1 67 62 = M 67 62 := by
  obtain ⟨g1, g2⟩ := m_em_g J R nL xs D c e hd hN ⟨h.2.2.2.1, h.2.2.2.2.1⟩ (nI j) v
  refine ⟨_, g1, ⟨h.1, h.2.1, h.2.2.1, h.2.2.2.1, ?_, fun i hi => ?_⟩, g2, rfl, rfl⟩
  · show upd (M 67) 63 (nI (Pn S + 1)) 63 = nI (Pn S + 1)
    exact pk_us
  · have hi' : i < Pn S + 1 := hi
    show upd (M 96) (160 + Pn S) (nI j) (160 + i) = nI (ups' (Pc S) (Pn S) j i) ∧ upd (M 97) (160 + Pn S) v (160 + i) = ups' (Pl S) (Pn S) v i
    by_cases e : i = Pn S
    · subst e
      rw [pk_us, pk_us, ups'_s, ups'_s]
      exact ⟨rfl, rfl⟩
    · rw [pk_un (by omega), pk_un (by omega), ups'_n _ _ e, ups'_n _ _ e]
      exact h.2.2.2.2.2 i (by omega)
theorem m_em_f {d N : Nat} (hd : 1 ≤ d) (hN : N < 160) {M : Nat → Nat → Int32} (h : MN N M) (w v : Int32) : ∃ M1, px_ex px_tab (d) 218 [Value.ref (67), Value.int (w), Value.int (v)] (hp (M) (J) (R) (c) (e) nL xs (D)) = some (none, (hp (M1) (J) (R) (c) (e) nL xs (D))) ∧ MN (N + 1) M1 ∧ MF M M1 ∧ M1 67 61 = M 67 61 ∧ M1 67 62 = M 67 62 := by
  obtain ⟨g1, g2⟩ := m_em_g J R nL xs D c e hd hN h w v
  refine ⟨_, g1, ⟨h.1, ?_⟩, g2, rfl, rfl⟩
  show upd (M 67) 63 (nI (N + 1)) 63 = nI (N + 1)
  exact pk_us
theorem m_wr_n {d : Nat} (hd : 1 ≤ d) {M : Nat → Nat → Int32} (h : M 67 61 = -1) : px_ex px_tab (d) 214 [Value.ref (67)] (hp (M) (J) (R) (c) (e) nL xs (D)) = some (some (Value.int (0)), (hp (M) (J) (R) (c) (e) nL xs (D))) := by
  obtain ⟨d, rfl⟩ : ∃ d', d = d' + 1 := ⟨d - 1, by omega⟩
  rw [xX12_isWrong]
  simp only [px_bd_s, px_psh_s, px_psh_n, px_vb_s, px_ib_s, px_wb_s, px_bo_s, px_bo_n, Bool.cond_decide, cond_true, cond_false, ite_not, Bool.and_true, if_true, if_false, not_true_eq_false, not_false_eq_true, i10, eq_self, decide_true, decide_false, Bool.or_true, Bool.true_or, Bool.or_false, Bool.false_or, Bool.false_eq_true, eX12_isWrong_0, eX12_isWrong_12, eX12_isWrong_13, h]
theorem m_wr_y {d b : Nat} (hd : 1 ≤ d) (hb : b ≤ 160) {M : Nat → Nat → Int32} (h : M 67 61 = nI b) : px_ex px_tab (d) 214 [Value.ref (67)] (hp (M) (J) (R) (c) (e) nL xs (D)) = some (some (Value.int (1)), (hp (M) (J) (R) (c) (e) nL xs (D))) := by
  obtain ⟨d, rfl⟩ : ∃ d', d = d' + 1 := ⟨d - 1, by omega⟩
  rw [xX12_isWrong]
  simp only [px_bd_s, px_psh_s, px_psh_n, px_vb_s, px_ib_s, px_wb_s, px_bo_s, px_bo_n, Bool.cond_decide, cond_true, cond_false, ite_not, Bool.and_true, if_true, if_false, not_true_eq_false, not_false_eq_true, i10, eq_self, decide_true, decide_false, Bool.or_true, Bool.true_or, Bool.or_false, Bool.false_or, Bool.false_eq_true, eX12_isWrong_0, eX12_isWrong_12, eX12_isWrong_13, h, nI_n1 (show b < 2 ^ 31 by omega)]
theorem m_can {d b : Nat} (hd : 1 ≤ d) {M : Nat → Nat → Int32} (h : M 67 61 = -1) (h2 : M 67 58 = nI b) : px_ex px_tab (d) 215 [Value.ref (67)] (hp (M) (J) (R) (c) (e) nL xs (D)) = some (none, (hp (px_uR M 67 (upd (M 67) 61 (nI b))) (J) (R) (c) (e) nL xs (D))) := by
  obtain ⟨d, rfl⟩ : ∃ d', d = d' + 1 := ⟨d - 1, by omega⟩
  rw [xX12_cannot]
  simp only [px_bd_s, px_psh_s, px_psh_n, px_vb_s, px_ib_s, px_wb_s, px_bo_s, px_bo_n, Bool.cond_decide, cond_true, cond_false, ite_not, Bool.and_true, if_true, if_false, not_true_eq_false, not_false_eq_true, i10, eq_self, decide_true, decide_false, Bool.or_true, Bool.true_or, Bool.or_false, Bool.false_or, Bool.false_eq_true, eX12_cannot_0, eX12_cannot_16, eX12_cannot_20, h, h2]
theorem MF.k {M M1 : Nat → Nat → Int32} (h : MF M M1) (k : Nat) (hk : k ∈ [57, 58, 59, 60, 61, 62, 63]) (x : Int32) : MF M (px_uR M1 67 (upd (M1 67) k x)) := ⟨h.1.k k x hk, h.2⟩
/-- once wrong, nothing more is read -/
theorem m_one_w {d b : Nat} (hd : 2 ≤ d) (hb : b ≤ 160) {M : Nat → Nat → Int32} (h : M 67 61 = nI b) : px_ex px_tab (d) 225 [Value.ref (67)] (hp (M) (J) (R) (c) (e) nL xs (D)) = some (none, (hp (M) (J) (R) (c) (e) nL xs (D))) := by
  obtain ⟨d, rfl⟩ : ∃ d', d = d' + 1 := ⟨d - 1, by omega⟩
  rw [xX12_one, eX12_one_0, m_wr_y J R nL xs D c e (by omega) hb h]
  simp only [px_bd_s, px_psh_s, px_psh_n, px_vb_s, px_ib_s, px_wb_s, px_bo_s, px_bo_n, Bool.cond_decide, cond_true, cond_false, ite_not, Bool.and_true, if_true, if_false, not_true_eq_false, not_false_eq_true, i10, eq_self, decide_true, decide_false, Bool.or_true, Bool.true_or, Bool.or_false, Bool.false_or, Bool.false_eq_true, eX12_one_0_2]
theorem m_not_w {d b : Nat} (hd : 2 ≤ d) (hb : b ≤ 160) {M : Nat → Nat → Int32} (h : M 67 61 = nI b) : px_ex px_tab (d) 222 [Value.ref (67)] (hp (M) (J) (R) (c) (e) nL xs (D)) = some (none, (hp (M) (J) (R) (c) (e) nL xs (D))) := by
  obtain ⟨d, rfl⟩ : ∃ d', d = d' + 1 := ⟨d - 1, by omega⟩
  rw [xX12_not, eX12_not_0, m_wr_y J R nL xs D c e (by omega) hb h]
  simp only [px_bd_s, px_psh_s, px_psh_n, px_vb_s, px_ib_s, px_wb_s, px_bo_s, px_bo_n, Bool.cond_decide, cond_true, cond_false, ite_not, Bool.and_true, if_true, if_false, not_true_eq_false, not_false_eq_true, i10, eq_self, decide_true, decide_false, Bool.or_true, Bool.true_or, Bool.or_false, Bool.false_or, Bool.false_eq_true, eX12_not_0_2]
theorem m_need_w {d b : Nat} (hd : 2 ≤ d) (hb : b ≤ 160) {M : Nat → Nat → Int32} (h : M 67 61 = nI b) (v : Int32) : px_ex px_tab (d) 216 [Value.ref (67), Value.int (v)] (hp (M) (J) (R) (c) (e) nL xs (D)) = some (none, (hp (M) (J) (R) (c) (e) nL xs (D))) := by
  obtain ⟨d, rfl⟩ : ∃ d', d = d' + 1 := ⟨d - 1, by omega⟩
  rw [xX12_need, eX12_need_0, m_wr_y J R nL xs D c e (by omega) hb h]
  simp only [px_bd_s, px_psh_s, px_psh_n, px_vb_s, px_ib_s, px_wb_s, px_bo_s, px_bo_n, Bool.cond_decide, cond_true, cond_false, ite_not, Bool.and_true, if_true, if_false, not_true_eq_false, not_false_eq_true, i10, eq_self, decide_true, decide_false, Bool.or_true, Bool.true_or, Bool.or_false, Bool.false_or, Bool.false_eq_true, eX12_need_0_2]
theorem m_both_w {d b : Nat} (hd : 3 ≤ d) (hb : b ≤ 160) {M : Nat → Nat → Int32} (h : M 67 61 = nI b) : px_ex px_tab (d) 221 [Value.ref (67)] (hp (M) (J) (R) (c) (e) nL xs (D)) = some (none, (hp (M) (J) (R) (c) (e) nL xs (D))) := by
  obtain ⟨d, rfl⟩ : ∃ d', d = d' + 1 := ⟨d - 1, by omega⟩
  rw [xX12_both, eX12_both_0, m_not_w J R nL xs D c e (by omega) hb h]
  simp only [px_bd_s, px_psh_s, px_psh_n, px_vb_s, px_ib_s, px_wb_s, px_bo_s, px_bo_n, Bool.cond_decide, cond_true, cond_false, ite_not, Bool.and_true, if_true, if_false, not_true_eq_false, not_false_eq_true, i10, eq_self, decide_true, decide_false, Bool.or_true, Bool.true_or, Bool.or_false, Bool.false_or, Bool.false_eq_true, eX12_both_0_2, eX12_both_4, m_wr_y J R nL xs D c e (show 1 ≤ d by omega) hb h, eX12_both_4_2, eX12_both_38]
theorem m_eit_w {d b : Nat} (hd : 4 ≤ d) (hb : b ≤ 160) {M : Nat → Nat → Int32} (h : M 67 61 = nI b) : px_ex px_tab (d) 220 [Value.ref (67)] (hp (M) (J) (R) (c) (e) nL xs (D)) = some (none, (hp (M) (J) (R) (c) (e) nL xs (D))) := by
  obtain ⟨d, rfl⟩ : ∃ d', d = d' + 1 := ⟨d - 1, by omega⟩
  rw [xX12_either, eX12_either_0, m_both_w J R nL xs D c e (by omega) hb h]
  simp only [px_bd_s, px_psh_s, px_psh_n, px_vb_s, px_ib_s, px_wb_s, px_bo_s, px_bo_n, Bool.cond_decide, cond_true, cond_false, ite_not, Bool.and_true, if_true, if_false, not_true_eq_false, not_false_eq_true, i10, eq_self, decide_true, decide_false, Bool.or_true, Bool.true_or, Bool.or_false, Bool.false_or, Bool.false_eq_true, eX12_either_0_2, eX12_either_4, m_wr_y J R nL xs D c e (show 1 ≤ d by omega) hb h, eX12_either_4_2, eX12_either_38]
/-- a sign more is open -/
theorem m_opn {T : Nat → Nat} {n d o : Nat} (hd : 4 ≤ d) (ho : o < 5) {S : PS} (hV : PV n S) {M : Nat → Nat → Int32} (h : MP T n S M) (h61 : M 67 61 = -1) (h62 : M 67 62 = nI o) : ∃ M1, px_ex px_tab (d) 217 [Value.ref (67)] (hp (M) (J) (R) (c) (e) nL xs (D)) = some (none, (hp (M1) (J) (R) (c) (e) nL xs (D))) ∧ MP T n (nx T n S) M1 ∧ MF M M1 ∧ M1 67 61 = -1 ∧ M1 67 62 = nI (o + 1) := by
  obtain ⟨d, rfl⟩ : ∃ d', d = d' + 1 := ⟨d - 1, by omega⟩
  have hM : MP T n S (px_uR M 67 (upd (M 67) 62 (nI (o + 1)))) := h
  obtain ⟨M1, q1, q2, q3, q4, q5⟩ := m_nx J R nL xs D c e (d := d) (by omega) hV.2.1 hV.2.2.1 hM
  refine ⟨M1, ?_, q2, ((MF.rf M).k 62 (by decide) _).tr q3, q4.trans h61, q5⟩
  have w := m_wr_n J R nL xs D c e (d := d) (by omega) (M := px_uR M 67 (upd (M 67) 62 (nI (o + 1)))) h61
  have x : ¬ nI o = 5 := fun q => by
    have := (nI_eq (b := 5) (by omega) (by decide)).mp q
    omega
  rw [xX12_opens, eX12_opens_0, h62]
  simp only [px_bd_s, px_psh_s, px_psh_n, px_vb_s, px_ib_s, px_wb_s, px_bo_s, px_bo_n, Bool.cond_decide, cond_true, cond_false, ite_not, Bool.and_true, if_true, if_false, not_true_eq_false, not_false_eq_true, i10, eq_self, decide_true, decide_false, Bool.or_true, Bool.true_or, Bool.or_false, Bool.false_or, Bool.false_eq_true, x, eX12_opens_12, h62, zp1, w, eX12_opens_12_8, q1, eX12_opens_12_11, eX12_opens_33]
theorem m_opn_f {T : Nat → Nat} {n d : Nat} (hd : 4 ≤ d) {S : PS} (hV : PV n S) {M : Nat → Nat → Int32} (h : MP T n S M) (h61 : M 67 61 = -1) (h62 : M 67 62 = 5) : ∃ M1, px_ex px_tab (d) 217 [Value.ref (67)] (hp (M) (J) (R) (c) (e) nL xs (D)) = some (none, (hp (M1) (J) (R) (c) (e) nL xs (D))) ∧ MN (Pn S) M1 ∧ MF M M1 ∧ M1 67 61 = nI (Pb S) ∧ M1 67 62 = 6 := by
  obtain ⟨d, rfl⟩ : ∃ d', d = d' + 1 := ⟨d - 1, by omega⟩
  have h160 : Pb S ≤ 160 := by have := hV.1; have := hV.2.1; have := hV.2.2.1; omega
  refine ⟨px_uR M 67 (upd (upd (M 67) 61 (nI (Pb S))) 62 6), ?_, ⟨h.2.2.2.1, h.2.2.2.2.1⟩, ?_, rfl, rfl⟩
  · have c1 := m_can J R nL xs D c e (d := d) (by omega) h61 h.2.2.1.1
    have w := m_wr_y J R nL xs D c e (d := d) (by omega) h160 (M := px_uR M 67 (upd (upd (M 67) 61 (nI (Pb S))) 62 6)) rfl
    have e62 : px_uR M 67 (upd (M 67) 61 (nI (Pb S))) 67 62 = 5 := h62
    have e5 : (5 : Int32) + 1 = 6 := rfl
    rw [xX12_opens, eX12_opens_0, h62]
    simp only [px_bd_s, px_psh_s, px_psh_n, px_vb_s, px_ib_s, px_wb_s, px_bo_s, px_bo_n, Bool.cond_decide, cond_true, cond_false, ite_not, Bool.and_true, if_true, if_false, not_true_eq_false, not_false_eq_true, i10, eq_self, decide_true, decide_false, Bool.or_true, Bool.true_or, Bool.or_false, Bool.false_or, Bool.false_eq_true, c1, eX12_opens_0_6, eX12_opens_12, e62, e5, px_uR_2]
    have e67 : px_uR M 67 (upd (M 67) 61 (nI (Pb S))) 67 = upd (M 67) 61 (nI (Pb S)) := rfl
    rw [e67, w]
    simp only [px_bd_s, px_psh_s, px_psh_n, px_vb_s, px_ib_s, px_wb_s, px_bo_s, px_bo_n, Bool.cond_decide, cond_true, cond_false, ite_not, Bool.and_true, if_true, if_false, not_true_eq_false, not_false_eq_true, i10, eq_self, decide_true, decide_false, Bool.or_true, Bool.true_or, Bool.or_false, Bool.false_or, Bool.false_eq_true, eX12_opens_12_8, eX12_opens_33]
  · have q := ((MF.rf M).k 61 (by decide) (nI (Pb S))).k 62 (by decide) 6
    rw [px_uR_2] at q
    exact q
end S84
