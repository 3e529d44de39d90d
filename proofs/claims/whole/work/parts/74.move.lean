/-! PART 74: the class's moveMark -/
theorem mv_1 : (1 : Int32) = iI 1 := by decide
theorem mv_m : (-1 : Int32) = iI (-1) := by decide
section S74
variable (d : Nat) (M : Nat → Nat → Int32) (J : Nat → Nat → Int64) (R : Nat → Nat → Option Nat) (c e nL : Nat) (xs : Nat → Int32) (D : px_H)
theorem c_mv_1 {s : Sv} {r m n w : Nat} {o : Nat → Bool} {p : Nat → Int × Int} {f : Nat → Nat} (hs : ISt s) (hN : ICn s p m f n M) (hS : ∀ q, sv_sum s o (ups p m q) m (St s) = nsum s p m q f n) (hm : m < Sm s) (hr : rng s 9092 p) (hw : 1 ≤ w) (hB : (p m).1.natAbs + w ≤ 9092 ∧ (p m).2.natAbs + w ≤ 9092) (a b : Int) (ha : -1 ≤ a ∧ a ≤ 1) (hb : -1 ≤ b ∧ b ≤ 1) (z : (Int × Int) × Int) (hz : 0 ≤ z.2 ∧ z.2 ≤ 4611686018427387904) (o13 o14 o15 o16 : Option Value) : px_run (px_mk (kX7_moveMark (px_ex px_tab (d + 2)))) 65 ([some (Value.ref (14)), none, none, some (Value.int (nI w)), some (Value.int (nI (8 * r + m))), some (Value.int (iI (p m).1)), some (Value.int (iI (p m).2)), some (Value.int (iI z.1.1)), some (Value.int (iI z.1.2)), some (Value.long (iL z.2)), none, some (Value.int (iI a)), some (Value.int (iI b)), o13, o14, o15, o16], [], (hp (M) (J) (R) (c) (e) nL xs (D))) = px_run (px_mk (kX7_moveMark (px_ex px_tab (d + 2)))) 65 ([some (Value.ref (14)), none, none, some (Value.int (nI w)), some (Value.int (nI (8 * r + m))), some (Value.int (iI (p m).1)), some (Value.int (iI (p m).2)), some (Value.int (iI (sv_try s o p m z ((p m).1 + a * w, (p m).2 + b * w)).1.1)), some (Value.int (iI (sv_try s o p m z ((p m).1 + a * w, (p m).2 + b * w)).1.2)), some (Value.long (iL (sv_try s o p m z ((p m).1 + a * w, (p m).2 + b * w)).2)), none, some (Value.int (iI a)), some (Value.int (iI (b + 1))), none, none, none, none], [], (hp (M) (J) (R) (c) (e) nL xs (D))) ∧ 0 ≤ (sv_try s o p m z ((p m).1 + a * w, (p m).2 + b * w)).2 ∧ (sv_try s o p m z ((p m).1 + a * w, (p m).2 + b * w)).2 ≤ 4611686018427387904 := by
  have qb : ((p m).1 + a * w).natAbs ≤ 9092 ∧ ((p m).2 + b * w).natAbs ≤ 9092 := by
    have a3 : a = -1 ∨ a = 0 ∨ a = 1 := by omega
    have b3 : b = -1 ∨ b = 0 ∨ b = 1 := by omega
    constructor
    · rcases a3 with rfl | rfl | rfl <;> omega
    · rcases b3 with rfl | rfl | rfl <;> omega
  have qe : iI b + 1 = iI (b + 1) := by
    rw [mv_1, iI_add]
  have ql : ¬ (1 : Int32) < iI b := by
    rcases (by omega : b = -1 ∨ b = 0 ∨ b = 1) with rfl | rfl | rfl <;> decide
  have qx : iI (p m).1 + iI a * nI w = iI ((p m).1 + a * w) := by
    rw [← iI_nat w, iI_mul, iI_add]
  have qy : iI (p m).2 + iI b * nI w = iI ((p m).2 + b * w) := by
    rw [← iI_nat w, iI_mul, iI_add]
  obtain ⟨v, v1, v2, v3, v4⟩ := c_near d M J R c e nL xs D (q := ((p m).1 + a * w, (p m).2 + b * w)) hs hN hm hr qb hz
  rw [← hS] at v4
  generalize hq : ((p m).1 + a * w, (p m).2 + b * w) = q at v4 ⊢
  have q1 : (p m).1 + a * w = q.1 := by rw [← hq]
  have q2 : (p m).2 + b * w = q.2 := by rw [← hq]
  rw [hq] at v1
  rw [q1] at qx
  rw [q2] at qy
  have sb := sv_sum_b hs (rng_ups hr (Nat.le_refl _) (m := m) (q := q) (by rw [← hq]; exact qb)) o m (St s) (Nat.le_refl _)
  have h24 := hs.2.1
  have cm : (0 ≤ lg_cmp (iL v) (iL z.2)) ↔ ¬ v < z.2 := by
    rw [lg_cmp_ge, iL_le hz (by omega)]
    omega
  constructor
  · rw [eX7_moveMark_65]
    simp only [px_bd_s, px_psh_s, px_psh_n, px_vb_s, px_ib_s, px_wb_s, px_bo_s, px_bo_n, Bool.cond_decide, cond_true, cond_false, ite_not, Bool.and_true, if_true, if_false, not_true_eq_false, not_false_eq_true, i10, eq_self, decide_true, decide_false, Bool.or_true, Bool.true_or, Bool.or_false, Bool.false_or, Bool.false_eq_true, ql, qx, qy, v1, eX7_moveMark_65_20, cm]
    unfold sv_try
    by_cases h : sv_sum s o (ups p m q) m (St s) < z.2
    · have hv : v = sv_sum s o (ups p m q) m (St s) := by
        rcases v4 with k | k
        · exact k
        · omega
      rw [if_pos h, hv]
      simp only [px_bd_s, px_psh_s, px_psh_n, px_vb_s, px_ib_s, px_wb_s, px_bo_s, px_bo_n, Bool.cond_decide, cond_true, cond_false, ite_not, Bool.and_true, if_true, if_false, not_true_eq_false, not_false_eq_true, i10, eq_self, decide_true, decide_false, Bool.or_true, Bool.true_or, Bool.or_false, Bool.false_or, Bool.false_eq_true, h, eX7_moveMark_121, qe]
    · have hv : ¬ v < z.2 := by
        rcases v4 with k | k <;> omega
      rw [if_neg h]
      simp only [px_bd_s, px_psh_s, px_psh_n, px_vb_s, px_ib_s, px_wb_s, px_bo_s, px_bo_n, Bool.cond_decide, cond_true, cond_false, ite_not, Bool.and_true, if_true, if_false, not_true_eq_false, not_false_eq_true, i10, eq_self, decide_true, decide_false, Bool.or_true, Bool.true_or, Bool.or_false, Bool.false_or, Bool.false_eq_true, hv, eX7_moveMark_121, qe]
  · unfold sv_try
    split
    · show 0 ≤ sv_sum s o (ups p m q) m (St s) ∧ sv_sum s o (ups p m q) m (St s) ≤ 4611686018427387904
      omega
    · exact hz
theorem c_mv_3 {s : Sv} {r m n w : Nat} {o : Nat → Bool} {p : Nat → Int × Int} {f : Nat → Nat} (hs : ISt s) (hN : ICn s p m f n M) (hS : ∀ q, sv_sum s o (ups p m q) m (St s) = nsum s p m q f n) (hm : m < Sm s) (hr : rng s 9092 p) (hw : 1 ≤ w) (hw2 : w ≤ 512) (hB : (p m).1.natAbs + w ≤ 9092 ∧ (p m).2.natAbs + w ≤ 9092) (i : Nat) (a : Int) (ha : -1 ≤ a ∧ a ≤ 1) (hat : sv_at (p m) w i = ((p m).1 + a * w, (p m).2 + -1 * w) ∧ sv_at (p m) w (i + 1) = ((p m).1 + a * w, (p m).2 + 0 * w) ∧ sv_at (p m) w (i + 2) = ((p m).1 + a * w, (p m).2 + 1 * w)) (hz : 0 ≤ (sv_nine s o p m w i).2 ∧ (sv_nine s o p m w i).2 ≤ 4611686018427387904) (o12 o13 o14 o15 o16 : Option Value) : px_run (px_mk (kX7_moveMark (px_ex px_tab (d + 2)))) 56 ([some (Value.ref (14)), none, none, some (Value.int (nI w)), some (Value.int (nI (8 * r + m))), some (Value.int (iI (p m).1)), some (Value.int (iI (p m).2)), some (Value.int (iI (sv_nine s o p m w i).1.1)), some (Value.int (iI (sv_nine s o p m w i).1.2)), some (Value.long (iL (sv_nine s o p m w i).2)), none, some (Value.int (iI a)), o12, o13, o14, o15, o16], [], (hp (M) (J) (R) (c) (e) nL xs (D))) = px_run (px_mk (kX7_moveMark (px_ex px_tab (d + 2)))) 56 ([some (Value.ref (14)), none, none, some (Value.int (nI w)), some (Value.int (nI (8 * r + m))), some (Value.int (iI (p m).1)), some (Value.int (iI (p m).2)), some (Value.int (iI (sv_nine s o p m w (i + 3)).1.1)), some (Value.int (iI (sv_nine s o p m w (i + 3)).1.2)), some (Value.long (iL (sv_nine s o p m w (i + 3)).2)), none, some (Value.int (iI (a + 1))), none, none, none, none, none], [], (hp (M) (J) (R) (c) (e) nL xs (D))) ∧ 0 ≤ (sv_nine s o p m w (i + 3)).2 ∧ (sv_nine s o p m w (i + 3)).2 ≤ 4611686018427387904 := by
  have st : ∀ (i : Nat) (b : Int), -1 ≤ b ∧ b ≤ 1 → sv_at (p m) w i = ((p m).1 + a * w, (p m).2 + b * w) → 0 ≤ (sv_nine s o p m w i).2 ∧ (sv_nine s o p m w i).2 ≤ 4611686018427387904 → px_run (px_mk (kX7_moveMark (px_ex px_tab (d + 2)))) 65 ([some (Value.ref (14)), none, none, some (Value.int (nI w)), some (Value.int (nI (8 * r + m))), some (Value.int (iI (p m).1)), some (Value.int (iI (p m).2)), some (Value.int (iI (sv_nine s o p m w i).1.1)), some (Value.int (iI (sv_nine s o p m w i).1.2)), some (Value.long (iL (sv_nine s o p m w i).2)), none, some (Value.int (iI a)), some (Value.int (iI b)), none, none, none, none], [], (hp (M) (J) (R) (c) (e) nL xs (D))) = px_run (px_mk (kX7_moveMark (px_ex px_tab (d + 2)))) 65 ([some (Value.ref (14)), none, none, some (Value.int (nI w)), some (Value.int (nI (8 * r + m))), some (Value.int (iI (p m).1)), some (Value.int (iI (p m).2)), some (Value.int (iI (sv_nine s o p m w (i + 1)).1.1)), some (Value.int (iI (sv_nine s o p m w (i + 1)).1.2)), some (Value.long (iL (sv_nine s o p m w (i + 1)).2)), none, some (Value.int (iI a)), some (Value.int (iI (b + 1))), none, none, none, none], [], (hp (M) (J) (R) (c) (e) nL xs (D))) ∧ 0 ≤ (sv_nine s o p m w (i + 1)).2 ∧ (sv_nine s o p m w (i + 1)).2 ≤ 4611686018427387904 := by
    intro i b hb hat hz
    have q := c_mv_1 d M J R c e nL xs D (r := r) hs hN hS hm hr hw hB a b ha hb (sv_nine s o p m w i) hz none none none none
    rw [← hat] at q
    exact q
  obtain ⟨r1, z1⟩ := st i (-1) (by omega) hat.1 hz
  obtain ⟨r2, z2⟩ := st (i + 1) 0 (by omega) hat.2.1 z1
  obtain ⟨r3, z3⟩ := st (i + 2) 1 (by omega) hat.2.2 z2
  refine ⟨?_, z3⟩
  have x0 : ¬ (1 : Int32) < iI a := by
    rcases (by omega : a = -1 ∨ a = 0 ∨ a = 1) with rfl | rfl | rfl <;> decide
  have y3 : (1 : Int32) < iI (1 + 1) := by decide
  have xe : iI a + 1 = iI (a + 1) := by
    rw [mv_1, iI_add]
  rw [eX7_moveMark_56]
  simp only [px_bd_s, px_psh_s, px_psh_n, px_vb_s, px_ib_s, px_wb_s, px_bo_s, px_bo_n, Bool.cond_decide, cond_true, cond_false, ite_not, Bool.and_true, if_true, if_false, not_true_eq_false, not_false_eq_true, i10, eq_self, decide_true, decide_false, Bool.or_true, Bool.true_or, Bool.or_false, Bool.false_or, Bool.false_eq_true, x0]
  rw [mv_m]
  refine Eq.trans (show _ = _ from r1) (Eq.trans r2 (Eq.trans r3 ?_))
  rw [eX7_moveMark_65]
  simp only [px_bd_s, px_psh_s, px_psh_n, px_vb_s, px_ib_s, px_wb_s, px_bo_s, px_bo_n, Bool.cond_decide, cond_true, cond_false, ite_not, Bool.and_true, if_true, if_false, not_true_eq_false, not_false_eq_true, i10, eq_self, decide_true, decide_false, Bool.or_true, Bool.true_or, Bool.or_false, Bool.false_or, Bool.false_eq_true, y3, eX7_moveMark_127, xe]
theorem iI_inj {a b : Int} (ha : -2147483648 ≤ a ∧ a < 2147483648) (hb : -2147483648 ≤ b ∧ b < 2147483648) : iI a = iI b ↔ a = b := by
  constructor
  · intro h
    have := congrArg Int32.toInt h
    unfold iI at this
    rw [Int32.toInt_ofInt_of_le (by omega) (by omega), Int32.toInt_ofInt_of_le (by omega) (by omega)] at this
    exact this
  · intro h
    rw [h]
theorem c_move {s : Sv} {r m w : Nat} {o : Nat → Bool} {p : Nat → Int × Int} (hs : ISt s) (hI : ICt s M) (hm : m < Sm s) (hr24 : r ≤ 24) (hp' : ICp s r p M) (ho : ICo s r o M) (hr : rng s 9092 p) (hw : 1 ≤ w) (hw2 : w ≤ 512) (hB : (p m).1.natAbs + w ≤ 9092 ∧ (p m).2.natAbs + w ≤ 9092) : ∃ M1, px_ex px_tab (d + 3) 95 [Value.ref (14), Value.int (nI m), Value.int (nI r), Value.int (nI w)] (hp (M) (J) (R) (c) (e) nL xs (D)) = some (some (Value.int (if (sv_nine s o p m w 9).1 = p m then 0 else 1)), (hp (M1) (J) (R) (c) (e) nL xs (D))) ∧ frm [14, 21, 22, 25, 26, 27] [] M M1 ∧ (∀ k, k ≠ 14 → M1 14 k = M 14 k) ∧ ICp s r (sv_go s o w p m) M1 ∧ ∀ j, j < 8 * r → M1 21 j = M 21 j ∧ M1 22 j = M 22 j := by
  have h8 := hs.1
  have h24 := hs.2.1
  obtain ⟨M1, f, n, g1, g2, g3, g4, g5⟩ := c_gather d M J R c e nL xs D hs hI hm hr24 hp' ho
  obtain ⟨e1, e2⟩ := hp' m hm
  have k1 : M1 21 (8 * r + m) = iI (p m).1 := by
    rw [g2.1 21 (by decide) (by decide)]
    exact e1
  have k2 : M1 22 (8 * r + m) = iI (p m).2 := by
    rw [g2.1 22 (by decide) (by decide)]
    exact e2
  obtain ⟨v, v1, v2, v3, v4⟩ := c_near d M1 J R c e nL xs D (q := p m) (L := 4611686018427387904) hs g4 hm hr (hr m hm) (by omega)
  rw [← g5, ups_id] at v4
  have sb := sv_sum_b hs hr o m (St s) (Nat.le_refl _)
  have hv : v = sv_sum s o p m (St s) := by
    rcases v4 with k | k
    · exact k
    · omega
  rw [hv] at v1
  obtain ⟨r1, z1⟩ := c_mv_3 d M1 J R c e nL xs D (r := r) hs g4 g5 hm hr hw hw2 hB 0 (-1) (by omega) ⟨rfl, rfl, rfl⟩ (by show 0 ≤ sv_sum s o p m (St s) ∧ sv_sum s o p m (St s) ≤ 4611686018427387904; omega) none none none none none
  obtain ⟨r2, z2⟩ := c_mv_3 d M1 J R c e nL xs D (r := r) hs g4 g5 hm hr hw hw2 hB 3 0 (by omega) ⟨rfl, rfl, rfl⟩ z1 none none none none none
  obtain ⟨r3, z3⟩ := c_mv_3 d M1 J R c e nL xs D (r := r) hs g4 g5 hm hr hw hw2 hB 6 1 (by omega) ⟨rfl, rfl, rfl⟩ z2 none none none none none
  have nb := sv_nine_b s o (w := w) (B := 9092) (hr m hm) 9 (Nat.le_refl _)
  have pm := hr m hm
  obtain ⟨z, hq⟩ : ∃ z, z = sv_nine s o p m w 9 := ⟨_, rfl⟩
  rw [← hq] at nb
  have r3' : px_run (px_mk (kX7_moveMark (px_ex px_tab (d + 2)))) 56 ([some (Value.ref (14)), none, none, some (Value.int (nI w)), some (Value.int (nI (8 * r + m))), some (Value.int (iI (p m).1)), some (Value.int (iI (p m).2)), some (Value.int (iI (sv_nine s o p m w 6).1.1)), some (Value.int (iI (sv_nine s o p m w 6).1.2)), some (Value.long (iL (sv_nine s o p m w 6).2)), none, some (Value.int (iI 1)), none, none, none, none, none], [], (hp (M1) (J) (R) (c) (e) nL xs (D))) = px_run (px_mk (kX7_moveMark (px_ex px_tab (d + 2)))) 56 ([some (Value.ref (14)), none, none, some (Value.int (nI w)), some (Value.int (nI (8 * r + m))), some (Value.int (iI (p m).1)), some (Value.int (iI (p m).2)), some (Value.int (iI z.1.1)), some (Value.int (iI z.1.2)), some (Value.long (iL z.2)), none, some (Value.int (iI (1 + 1))), none, none, none, none, none], [], (hp (M1) (J) (R) (c) (e) nL xs (D))) := by
    rw [hq]
    exact r3
  refine ⟨px_uR (px_uR M1 21 (upd (M1 21) (8 * r + m) (iI z.1.1))) 22 (upd (M1 22) (8 * r + m) (iI z.1.2)), ?_, ((g2.mono (by decide) (by decide)).u 21 _ (by decide) (by decide)).u 22 _ (by decide) (by decide), fun k hk => ?_, fun i hi => ?_, fun j hj => ?_⟩
  · have e8 : (8 : Int32) * nI r = nI (8 * r) := pk_mul 8 r
    have x3 : (1 : Int32) < iI (1 + 1) := by decide
    have eL : (4611686018427387904 : Int64) = iL 4611686018427387904 := rfl
    rw [← hq, xX7_moveMark]
    simp (disch := omega) only [px_bd_s, px_psh_s, px_psh_n, px_vb_s, px_ib_s, px_wb_s, px_bo_s, px_bo_n, Bool.cond_decide, cond_true, cond_false, ite_not, Bool.and_true, if_true, if_false, not_true_eq_false, not_false_eq_true, i10, eq_self, decide_true, decide_false, Bool.or_true, Bool.true_or, Bool.or_false, Bool.false_or, Bool.false_eq_true, eX7_moveMark_0, g1, eX7_moveMark_0_4, e8, nI_add, px_inbT, nI_clamp, k1, k2, eL]
    rw [v1]
    simp only [px_bd_s, px_psh_s, px_psh_n, px_vb_s, px_ib_s, px_wb_s, px_bo_s, px_bo_n, Bool.cond_decide, cond_true, cond_false, ite_not, Bool.and_true, if_true, if_false, not_true_eq_false, not_false_eq_true, i10, eq_self, decide_true, decide_false, Bool.or_true, Bool.true_or, Bool.or_false, Bool.false_or, Bool.false_eq_true, eX7_moveMark_0_29]
    rw [mv_m]
    rw [eX7_moveMark_56]
    rw [eX7_moveMark_56] at r1
    refine Eq.trans (show _ = _ from r1) (Eq.trans r2 (Eq.trans r3' ?_))
    rw [eX7_moveMark_56]
    simp only [px_bd_s, px_psh_s, px_psh_n, px_vb_s, px_ib_s, px_wb_s, px_bo_s, px_bo_n, Bool.cond_decide, cond_true, cond_false, ite_not, Bool.and_true, if_true, if_false, not_true_eq_false, not_false_eq_true, i10, eq_self, decide_true, decide_false, Bool.or_true, Bool.true_or, Bool.or_false, Bool.false_or, Bool.false_eq_true, x3]
    rw [eX7_moveMark_133]
    have i1 : (iI z.1.1 = iI (p m).1) ↔ z.1.1 = (p m).1 := iI_inj (by omega) (by omega)
    have i2 : (iI z.1.2 = iI (p m).2) ↔ z.1.2 = (p m).2 := iI_inj (by omega) (by omega)
    by_cases h1 : z.1.1 = (p m).1
    · by_cases h2 : z.1.2 = (p m).2
      · have h3 : z.1 = p m := Prod.ext h1 h2
        simp (disch := omega) only [px_bd_s, px_psh_s, px_psh_n, px_vb_s, px_ib_s, px_wb_s, px_bo_s, px_bo_n, Bool.cond_decide, cond_true, cond_false, ite_not, Bool.and_true, if_true, if_false, not_true_eq_false, not_false_eq_true, i10, eq_self, decide_true, decide_false, Bool.or_true, Bool.true_or, Bool.or_false, Bool.false_or, Bool.false_eq_true, px_inbT, nI_clamp, i1, i2, h1, h2, h3, eX7_moveMark_169, eX7_moveMark_170]
      · have h3 : ¬ z.1 = p m := fun k => h2 (by rw [k])
        simp (disch := omega) only [px_bd_s, px_psh_s, px_psh_n, px_vb_s, px_ib_s, px_wb_s, px_bo_s, px_bo_n, Bool.cond_decide, cond_true, cond_false, ite_not, Bool.and_true, if_true, if_false, not_true_eq_false, not_false_eq_true, i10, eq_self, decide_true, decide_false, Bool.or_true, Bool.true_or, Bool.or_false, Bool.false_or, Bool.false_eq_true, px_inbT, nI_clamp, i1, i2, h1, h2, h3, eX7_moveMark_165, eX7_moveMark_170]
    · have h3 : ¬ z.1 = p m := fun k => h1 (by rw [k])
      simp (disch := omega) only [px_bd_s, px_psh_s, px_psh_n, px_vb_s, px_ib_s, px_wb_s, px_bo_s, px_bo_n, Bool.cond_decide, cond_true, cond_false, ite_not, Bool.and_true, if_true, if_false, not_true_eq_false, not_false_eq_true, i10, eq_self, decide_true, decide_false, Bool.or_true, Bool.true_or, Bool.or_false, Bool.false_or, Bool.false_eq_true, px_inbT, nI_clamp, i1, h1, h3, eX7_moveMark_165, eX7_moveMark_170]
  · exact g3 k hk
  · show upd (M1 21) (8 * r + m) (iI z.1.1) (8 * r + i) = iI (ups p m (sv_nine s o p m w 9).1 i).1 ∧ upd (M1 22) (8 * r + m) (iI z.1.2) (8 * r + i) = iI (ups p m (sv_nine s o p m w 9).1 i).2
    rw [← hq]
    by_cases ei : i = m
    · subst ei
      rw [pk_us, pk_us, ups_s]
      exact ⟨rfl, rfl⟩
    · rw [pk_un (by omega), pk_un (by omega), ups_n _ _ ei, g2.1 21 (by decide) (by decide), g2.1 22 (by decide) (by decide)]
      exact hp' i hi
  · show upd (M1 21) (8 * r + m) (iI z.1.1) j = M 21 j ∧ upd (M1 22) (8 * r + m) (iI z.1.2) j = M 22 j
    rw [pk_un (by omega), pk_un (by omega), g2.1 21 (by decide) (by decide), g2.1 22 (by decide) (by decide)]
    exact ⟨rfl, rfl⟩
end S74
