/-! PART 76: the class's judge, and a round more -/
section S76
variable (d : Nat) (M : Nat → Nat → Int32) (J : Nat → Nat → Int64) (R : Nat → Nat → Option Nat) (c e nL : Nat) (xs : Nat → Int32) (D : px_H)
theorem c_miss {s : Sv} {r k : Nat} {p : Nat → Int × Int} (hs : ISt s) (hI : ICt s M) (hr24 : r ≤ 24) (hp' : ICp s r p M) (hr : rng s 9092 p) (hk : k < St s) : px_ex px_tab (d + 2) 90 [Value.ref (14), Value.int (nI k), Value.int (nI r)] (hp (M) (J) (R) (c) (e) nL xs (D)) = some (some (Value.int (iI (sv_mis s p k))), (hp (M) (J) (R) (c) (e) nL xs (D))) := by
  have h8 := hs.1
  have h24 := hs.2.1
  obtain ⟨t1, t2, t3, t4, t5⟩ := hs.2.2 k hk
  obtain ⟨i1, i2, i3⟩ := hI.2.2 k hk
  obtain ⟨a1, a2⟩ := hp' _ t1
  obtain ⟨b1, b2⟩ := hp' _ t2
  obtain ⟨r1, r2⟩ := hr _ t1
  obtain ⟨r3, r4⟩ := hr _ t2
  have hb := sq2_b (u := (p (Sa s k)).1 - (p (Sb s k)).1) (v := (p (Sa s k)).2 - (p (Sb s k)).2) (by omega) (by omega)
  have cd := c_dist d M J R c e nL xs D (s := sq2 ((p (Sa s k)).1 - (p (Sb s k)).1) ((p (Sa s k)).2 - (p (Sb s k)).2)) (by omega) t4 t5 (iI ((p (Sa s k)).1 - (p (Sb s k)).1)) (iI ((p (Sa s k)).2 - (p (Sb s k)).2)) (sq2_I _ _)
  have e8 : (8 : Int32) * nI r = nI (8 * r) := pk_mul 8 r
  rw [xX7_miss]
  simp (disch := omega) only [px_bd_s, px_psh_s, px_psh_n, px_vb_s, px_ib_s, px_wb_s, px_bo_s, px_bo_n, Bool.cond_decide, cond_true, cond_false, ite_not, Bool.and_true, if_true, if_false, not_true_eq_false, not_false_eq_true, i10, eq_self, decide_true, decide_false, Bool.or_true, Bool.true_or, Bool.or_false, Bool.false_or, Bool.false_eq_true, eX7_miss_0, px_inbT, nI_clamp, i1, i2, i3, e8, nI_add, a1, a2, b1, b2, iI_sub, cd, eX7_miss_0_41]
  rw [← iI_nat (rt _), ← iI_nat (Sl s k), iI_sub]
  rfl
def jw (s : Sv) (o : Nat → Bool) (p : Nat → Int × Int) (k : Nat) : Int32 := if (sv_w s o p k).1 < 0 then -1 else nI (sv_w s o p k).2
theorem c_judge_l {s : Sv} {r : Nat} {o : Nat → Bool} {p : Nat → Int × Int} (hs : ISt s) (hI : ICt s M) (ho : ICo s r o M) (hr24 : r ≤ 24) (hp' : ICp s r p M) (hr : rng s 9092 p) : ∀ (g k : Nat) (o5 : Option Value), k + g = St s → px_run (px_mk (kX7_judge (px_ex px_tab (d + 2)))) 7 ([some (Value.ref (14)), some (Value.int (nI r)), some (Value.int (jw s o p k)), some (Value.int (iI (sv_w s o p k).1)), some (Value.int (nI k)), o5], [], (hp (M) (J) (R) (c) (e) nL xs (D))) = px_run (px_mk (kX7_judge (px_ex px_tab (d + 2)))) 56 ([some (Value.ref (14)), some (Value.int (nI r)), some (Value.int (jw s o p (St s))), some (Value.int (iI (sv_w s o p (St s)).1)), some (Value.int (nI (St s))), none], [], (hp (M) (J) (R) (c) (e) nL xs (D)))
  | 0, k, o5, hk => by
    have h24 := hs.2.1
    rw [show k = St s from by omega, eX7_judge_7]
    simp (disch := omega) only [px_bd_s, px_psh_s, px_psh_n, px_vb_s, px_ib_s, px_wb_s, px_bo_s, px_bo_n, Bool.cond_decide, cond_true, cond_false, ite_not, Bool.and_true, if_true, if_false, not_true_eq_false, not_false_eq_true, i10, eq_self, decide_true, decide_false, Bool.or_true, Bool.true_or, Bool.or_false, Bool.false_or, Bool.false_eq_true, hI.2.1, nI_leI, Nat.le_refl, if_pos]
  | g + 1, k, o5, hk => by
    have h24 := hs.2.1
    have ih := c_judge_l hs hI ho hr24 hp' hr g (k + 1) none (by omega)
    have b1 := mis_b hs hr (k := k) (by omega)
    have wm := sv_w_m hs o hr k (by omega)
    have wb := (sv_w_b s o p k).1
    have x0 : ¬ nI (St s) ≤ nI k := fun q => by
      have := (nI_leI (by omega) (by omega)).mp q
      omega
    have io := c_isOut (d + 1) M J R c e nL xs D hs hr24 ho (j := k) (by omega)
    have ms := c_miss d M J R c e nL xs D hs hI hr24 hp' hr (k := k) (by omega)
    have ab : (if 0 ≤ iI (sv_mis s p k) then iI (sv_mis s p k) else 0 - iI (sv_mis s p k)) = iI ((sv_mis s p k).natAbs : Int) := by
      have x1 : (0 ≤ iI (sv_mis s p k)) ↔ 0 ≤ sv_mis s p k := iI_le (a := 0) (by omega) (by omega)
      by_cases h0 : 0 ≤ sv_mis s p k
      · rw [if_pos (x1.mpr h0), Int.natAbs_of_nonneg h0]
      · rw [if_neg (fun q => h0 (x1.mp q)), show (0 : Int32) = iI 0 from rfl, iI_sub, show ((sv_mis s p k).natAbs : Int) = 0 - sv_mis s p k by omega]
    have xc : iI ((sv_mis s p k).natAbs : Int) ≤ iI (sv_w s o p k).1 ↔ ((sv_mis s p k).natAbs : Int) ≤ (sv_w s o p k).1 := iI_le (by omega) (by omega)
    rw [eX7_judge_7]
    by_cases h1 : o k = true
    · have es : sv_w s o p (k + 1) = sv_w s o p k := by
        rw [sv_w_s, if_neg (fun q => by rw [h1] at q; cases q.1)]
      unfold jw at ih ⊢
      rw [es] at ih
      simp only [px_bd_s, px_psh_s, px_psh_n, px_vb_s, px_ib_s, px_wb_s, px_bo_s, px_bo_n, Bool.cond_decide, cond_true, cond_false, ite_not, Bool.and_true, if_true, if_false, not_true_eq_false, not_false_eq_true, i10, eq_self, decide_true, decide_false, Bool.or_true, Bool.true_or, Bool.or_false, Bool.false_or, Bool.false_eq_true, hI.2.1, x0, io, h1, eX7_judge_7_8, eX7_judge_50, zp1]
      exact ih
    · have h1' : o k = false := by
        cases h : o k
        · rfl
        · exact absurd h h1
      by_cases h2 : (sv_w s o p k).1 < ((sv_mis s p k).natAbs : Int)
      · have es : sv_w s o p (k + 1) = (((sv_mis s p k).natAbs : Int), k) := by
          rw [sv_w_s, if_pos ⟨h1', h2⟩]
        have h3 : ¬ ((sv_mis s p k).natAbs : Int) ≤ (sv_w s o p k).1 := by omega
        have ej : jw s o p (k + 1) = nI k := by
          unfold jw
          rw [es, if_neg]
          show ¬ ((sv_mis s p k).natAbs : Int) < 0
          omega
        rw [ej, es] at ih
        simp only [px_bd_s, px_psh_s, px_psh_n, px_vb_s, px_ib_s, px_wb_s, px_bo_s, px_bo_n, Bool.cond_decide, cond_true, cond_false, ite_not, Bool.and_true, if_true, if_false, not_true_eq_false, not_false_eq_true, i10, eq_self, decide_true, decide_false, Bool.or_true, Bool.true_or, Bool.or_false, Bool.false_or, Bool.false_eq_true, hI.2.1, x0, io, h1, eX7_judge_7_8, ms, eX7_judge_7_13, ab, xc, h3, eX7_judge_50, zp1]
        exact ih
      · have es : sv_w s o p (k + 1) = sv_w s o p k := by
          rw [sv_w_s, if_neg (fun q => h2 q.2)]
        have h3 : ((sv_mis s p k).natAbs : Int) ≤ (sv_w s o p k).1 := by omega
        unfold jw at ih ⊢
        rw [es] at ih
        simp only [px_bd_s, px_psh_s, px_psh_n, px_vb_s, px_ib_s, px_wb_s, px_bo_s, px_bo_n, Bool.cond_decide, cond_true, cond_false, ite_not, Bool.and_true, if_true, if_false, not_true_eq_false, not_false_eq_true, i10, eq_self, decide_true, decide_false, Bool.or_true, Bool.true_or, Bool.or_false, Bool.false_or, Bool.false_eq_true, hI.2.1, x0, io, h1, eX7_judge_7_8, ms, eX7_judge_7_13, ab, xc, h3, eX7_judge_50, zp1]
        exact ih
theorem c_judge {s : Sv} {r : Nat} {o : Nat → Bool} {p : Nat → Int × Int} (hs : ISt s) (hI : ICt s M) (ho : ICo s r o M) (hr24 : r ≤ 24) (hp' : ICp s r p M) (hr : rng s 9092 p) : px_ex px_tab (d + 3) 97 [Value.ref (14), Value.int (nI r)] (hp (M) (J) (R) (c) (e) nL xs (D)) = some (none, (hp (if (sv_w s o p (St s)).1 < 0 then px_uR M 23 (upd (M 23) r (iI (sv_w s o p (St s)).1)) else px_uR (px_uR M 23 (upd (M 23) r (iI (sv_w s o p (St s)).1))) 24 (upd (M 24) (sv_w s o p (St s)).2 (nI (r + 1)))) (J) (R) (c) (e) nL xs (D))) := by
  have h24 := hs.2.1
  rw [xX7_judge, eX7_judge_0]
  have l := c_judge_l d M J R c e nL xs D hs hI ho hr24 hp' hr (St s) 0 none (by omega)
  have j0 : jw s o p 0 = -1 := rfl
  have s0 : iI (sv_w s o p 0).1 = -1 := rfl
  rw [j0, s0] at l
  refine Eq.trans (show _ = _ from l) ?_
  rw [eX7_judge_56]
  by_cases h : (sv_w s o p (St s)).1 < 0
  · have j1 : jw s o p (St s) = -1 := if_pos h
    simp (disch := omega) only [px_bd_s, px_psh_s, px_psh_n, px_vb_s, px_ib_s, px_wb_s, px_bo_s, px_bo_n, Bool.cond_decide, cond_true, cond_false, ite_not, Bool.and_true, if_true, if_false, not_true_eq_false, not_false_eq_true, i10, eq_self, decide_true, decide_false, Bool.or_true, Bool.true_or, Bool.or_false, Bool.false_or, Bool.false_eq_true, px_inbT, nI_clamp, j1, show (-1 : Int32) < 0 from by decide, eX7_judge_76, h]
  · have j1 : jw s o p (St s) = nI (sv_w s o p (St s)).2 := if_neg h
    have w1 := ((sv_w_b s o p (St s)).2 (by omega)).1
    have x1 : ¬ nI (sv_w s o p (St s)).2 < 0 := nI_pos (by omega)
    simp (disch := omega) only [px_bd_s, px_psh_s, px_psh_n, px_vb_s, px_ib_s, px_wb_s, px_bo_s, px_bo_n, Bool.cond_decide, cond_true, cond_false, ite_not, Bool.and_true, if_true, if_false, not_true_eq_false, not_false_eq_true, i10, eq_self, decide_true, decide_false, Bool.or_true, Bool.true_or, Bool.or_false, Bool.false_or, Bool.false_eq_true, px_inbT, nI_clamp, j1, x1, eX7_judge_76, h, zp1]
/-- a round: it is there, or it is fitted now -/
theorem c_fitn {s : Sv} {r k : Nat} (hs : ISt s) (hI : ICt s M) (ht : ICd s M) (hr : rg5 s) (hk : ISk s r M) (h1 : k ≤ r) (h2 : k ≤ St s) : ∃ M1 r1, px_ex px_tab (d + 4) 92 [Value.ref (14), Value.int (nI k)] (hp (M) (J) (R) (c) (e) nL xs (D)) = some (none, (hp (M1) (J) (R) (c) (e) nL xs (D))) ∧ ISk s r1 M1 ∧ k < r1 ∧ r ≤ r1 ∧ frm [14, 21, 22, 23, 24, 25, 26, 27] [] M M1 ∧ ∀ j, j ≠ 9 → j ≠ 14 → M1 14 j = M 14 j := by
  have h24 := hs.2.1
  have h8 := hs.1
  obtain ⟨k1, k2, k3, k4⟩ := hk
  rcases Nat.lt_or_ge k r with hl | hl
  · refine ⟨M, r, ?_, ⟨k1, k2, k3, k4⟩, hl, Nat.le_refl _, frm.rf _ _ _, fun _ _ _ => rfl⟩
    rw [xX7_fitIfNew, eX7_fitIfNew_0]
    simp (disch := omega) only [px_bd_s, px_psh_s, px_psh_n, px_vb_s, px_ib_s, px_wb_s, px_bo_s, px_bo_n, Bool.cond_decide, cond_true, cond_false, ite_not, Bool.and_true, if_true, if_false, not_true_eq_false, not_false_eq_true, i10, eq_self, decide_true, decide_false, Bool.or_true, Bool.true_or, Bool.or_false, Bool.false_or, Bool.false_eq_true, k1, nI_leI, if_neg]
  · have ek : k = r := by omega
    subst ek
    have hr24 : k ≤ 24 := by omega
    have ho : ICo s k (sv_out s k) M := fun j hj => by
      obtain ⟨q, q1, q2, q3⟩ := k4 j hj
      exact ⟨q, q1, by omega, q3 k (Nat.le_refl _)⟩
    obtain ⟨M0, a1, a2, a3⟩ := c_told_l (d + 2) M J R c e nL xs D hs hI ht hr24 (Sm s) 0 M (by omega) (FK.rf _ _) (fun i hi => by omega)
    obtain ⟨M1, b1, b2, b3⟩ := c_stp d M J R c e nL xs D hs hI ht ho hr24 hr 10 0 M0 none none none (by omega) a2 a3
    have hI1 := b2.t hI
    have ho1 := b2.o ho
    have j1 := c_judge d M1 J R c e nL xs D hs hI1 ho1 hr24 b3 (sv_pos_r hr (sv_out s k))
    have run1 : ∀ M2, px_ex px_tab (d + 3) 97 [Value.ref (14), Value.int (nI k)] (hp (M1) (J) (R) (c) (e) nL xs (D)) = some (none, (hp (M2) (J) (R) (c) (e) nL xs (D))) → px_ex px_tab (d + 4) 92 [Value.ref (14), Value.int (nI k)] (hp (M) (J) (R) (c) (e) nL xs (D)) = some (none, (hp (px_uR M2 14 (upd (M2 14) 9 (nI (k + 1)))) (J) (R) (c) (e) nL xs (D))) := by
      intro M2 hj
      rw [xX7_fitIfNew, eX7_fitIfNew_0]
      simp (disch := omega) only [px_bd_s, px_psh_s, px_psh_n, px_vb_s, px_ib_s, px_wb_s, px_bo_s, px_bo_n, Bool.cond_decide, cond_true, cond_false, ite_not, Bool.and_true, if_true, if_false, not_true_eq_false, not_false_eq_true, i10, eq_self, decide_true, decide_false, Bool.or_true, Bool.true_or, Bool.or_false, Bool.false_or, Bool.false_eq_true, k1, nI_leI, if_pos, Nat.le_refl, eX7_fitIfNew_9, xX7_goToTold, eX7_goToTold_0]
      rw [show px_run (px_mk (kX7_goToTold (px_ex px_tab (d + 2)))) 2 ([some (Value.ref 14), some (Value.int (nI k)), some (Value.int 0)], [], hp M J R c e nL xs D) = _ from a1]
      simp only [px_bd_s, px_psh_s, px_psh_n, px_vb_s, px_ib_s, px_wb_s, px_bo_s, px_bo_n, Bool.cond_decide, cond_true, cond_false, ite_not, Bool.and_true, if_true, if_false, not_true_eq_false, not_false_eq_true, i10, eq_self, decide_true, decide_false, Bool.or_true, Bool.true_or, Bool.or_false, Bool.false_or, Bool.false_eq_true, eX7_fitIfNew_9_3]
      refine Eq.trans (show _ = _ from b1) ?_
      rw [eX7_fitIfNew_94, hj]
      simp only [px_bd_s, px_psh_s, px_psh_n, px_vb_s, px_ib_s, px_wb_s, px_bo_s, px_bo_n, Bool.cond_decide, cond_true, cond_false, ite_not, Bool.and_true, if_true, if_false, not_true_eq_false, not_false_eq_true, i10, eq_self, decide_true, decide_false, Bool.or_true, Bool.true_or, Bool.or_false, Bool.false_or, Bool.false_eq_true, eX7_fitIfNew_94_3, zp1]
    have sz : (sv_w s (sv_out s k) (sv_fit s (sv_out s k)) (St s)).1 = sv_size s k := rfl
    have new : ∀ M2, frm [23, 24] [] M1 M2 → (∀ j, M2 23 j = if j = k then iI (sv_size s k) else M 23 j) → (∀ j, j < St s → ∃ q, M2 24 j = nI q ∧ (q ≤ k + 1 ∨ q = 99) ∧ ∀ i, i ≤ k + 1 → (q ≤ i ↔ sv_out s i j = true)) → ISk s (k + 1) (px_uR M2 14 (upd (M2 14) 9 (nI (k + 1)))) ∧ frm [14, 21, 22, 23, 24, 25, 26, 27] [] M (px_uR M2 14 (upd (M2 14) 9 (nI (k + 1)))) ∧ ∀ j, j ≠ 9 → j ≠ 14 → px_uR M2 14 (upd (M2 14) 9 (nI (k + 1))) 14 j = M 14 j := by
      intro M2 f h23 h24'
      refine ⟨⟨?_, by omega, fun i hi => ⟨?_, fun u hu => ?_⟩, h24'⟩, ((b2.1.mono (by decide) (by decide)).tr (f.mono (by decide) (by decide))).u 14 _ (by decide) (by decide), fun j hj hj2 => ?_⟩
      · show upd (M2 14) 9 (nI (k + 1)) 9 = nI (k + 1)
        exact pk_us
      · show M2 23 i = iI (sv_size s i)
        rw [h23 i]
        by_cases ei : i = k
        · rw [if_pos ei, ei]
        · rw [if_neg ei]
          exact (k3 i (by omega)).1
      · show M2 21 (8 * i + u) = iI (sv_pos s i u).1 ∧ M2 22 (8 * i + u) = iI (sv_pos s i u).2
        rw [f.1 21 (by decide) (by decide), f.1 22 (by decide) (by decide)]
        by_cases ei : i = k
        · rw [ei]
          exact b3 u hu
        · rw [(b2.2.2 (8 * i + u) (by omega)).1, (b2.2.2 (8 * i + u) (by omega)).2]
          exact (k3 i (by omega)).2 u hu
      · show upd (M2 14) 9 (nI (k + 1)) j = M 14 j
        rw [pk_un hj, f.1 14 (by decide) (by decide)]
        exact b2.2.1 j hj2
    by_cases hz : sv_size s k < 0
    · rw [sz, if_pos hz] at j1
      have so : sv_out s (k + 1) = sv_out s k := by
        rw [sv_out_s]
        simp [show ¬ 0 ≤ sv_size s k by omega]
      obtain ⟨n1, n2, n3⟩ := new _ ((frm.rf [23, 24] [] M1).u 23 (upd (M1 23) k (iI (sv_size s k))) (by decide) (by decide)) (fun j => by
        show upd (M1 23) k (iI (sv_size s k)) j = _
        by_cases ej : j = k
        · subst ej
          rw [pk_us, if_pos rfl]
        · rw [pk_un ej, if_neg ej, b2.1.1 23 (by decide) (by decide)]) (fun j hj => by
        obtain ⟨q, q1, q2, q3⟩ := k4 j hj
        refine ⟨q, ?_, by omega, fun i hi => ?_⟩
        · show M1 24 j = nI q
          rw [b2.1.1 24 (by decide) (by decide)]
          exact q1
        · by_cases ei : i = k + 1
          · rw [ei, so, ← q3 k (Nat.le_refl _)]
            omega
          · exact q3 i (by omega))
      exact ⟨_, k + 1, run1 _ j1, n1, by omega, by omega, n2, n3⟩
    · rw [sz, if_neg hz] at j1
      obtain ⟨u1, u2⟩ := (sv_w_b s (sv_out s k) (sv_fit s (sv_out s k)) (St s)).2 (by rw [sz]; omega)
      have so : sv_out s (k + 1) = fun j => sv_out s k j || decide (j = (sv_w s (sv_out s k) (sv_fit s (sv_out s k)) (St s)).2) := by
        rw [sv_out_s]
        simp [show 0 ≤ sv_size s k by omega]
        rfl
      generalize (sv_w s (sv_out s k) (sv_fit s (sv_out s k)) (St s)).2 = v at j1 u1 u2 so
      obtain ⟨n1, n2, n3⟩ := new _ (((frm.rf [23, 24] [] M1).u 23 (upd (M1 23) k (iI (sv_size s k))) (by decide) (by decide)).u 24 (upd (M1 24) v (nI (k + 1))) (by decide) (by decide)) (fun j => by
        show upd (M1 23) k (iI (sv_size s k)) j = _
        by_cases ej : j = k
        · subst ej
          rw [pk_us, if_pos rfl]
        · rw [pk_un ej, if_neg ej, b2.1.1 23 (by decide) (by decide)]) (fun j hj => by
        obtain ⟨q, q1, q2, q3⟩ := k4 j hj
        by_cases ej : j = v
        · refine ⟨k + 1, ?_, Or.inl (Nat.le_refl _), fun i hi => ?_⟩
          · show upd (M1 24) v (nI (k + 1)) j = nI (k + 1)
            rw [ej, pk_us]
          · by_cases ei : i = k + 1
            · rw [ei, so]
              simp [ej]
            · rw [← q3 i (by omega)]
              have q4 : ¬ q ≤ k := fun z => by
                have := (q3 k (Nat.le_refl _)).mp z
                rw [ej, u2] at this
                cases this
              omega
        · refine ⟨q, ?_, by omega, fun i hi => ?_⟩
          · show upd (M1 24) v (nI (k + 1)) j = nI q
            rw [pk_un ej, b2.1.1 24 (by decide) (by decide)]
            exact q1
          · by_cases ei : i = k + 1
            · rw [ei, so]
              have e0 : (sv_out s k j || decide (j = v)) = sv_out s k j := by simp [ej]
              show q ≤ k + 1 ↔ (sv_out s k j || decide (j = v)) = true
              rw [e0, ← q3 k (Nat.le_refl _)]
              omega
            · exact q3 i (by omega))
      exact ⟨_, k + 1, run1 _ j1, n1, by omega, by omega, n2, n3⟩
end S76
