/-! PART 69: the model's goes -/
theorem sv_sum_b {s : Sv} (hs : ISt s) {p : Nat → Int × Int} (hr : rng s 9092 p) (o : Nat → Bool) (m : Nat) : ∀ k, k ≤ St s → 0 ≤ sv_sum s o p m k ∧ sv_sum s o p m k ≤ k * 661312656
  | 0, _ => by
    show (0 : Int) ≤ 0 ∧ (0 : Int) ≤ (0 : Nat) * 661312656
    omega
  | k + 1, hk => by
    obtain ⟨h1, h2⟩ := sv_sum_b hs hr o m k (by omega)
    rw [sv_sum_s]
    have b := mis_b hs hr (k := k) (by omega)
    have q : (sv_mis s p k).natAbs * (sv_mis s p k).natAbs ≤ 25716 * 25716 := Nat.mul_le_mul (by omega) (by omega)
    have q2 := Int.natAbs_mul_self (a := sv_mis s p k)
    split <;> omega
theorem iL_le {a b : Int} (ha : 0 ≤ a ∧ a ≤ 4611686018427387904) (hb : 0 ≤ b ∧ b ≤ 4611686018427387904) : iL a ≤ iL b ↔ a ≤ b := by
  rw [Int64.le_iff_toInt_le]
  unfold iL
  rw [Int64.toInt_ofInt_of_le (by omega) (by omega), Int64.toInt_ofInt_of_le (by omega) (by omega)]
theorem ups_s (p : Nat → Int × Int) (m : Nat) (q : Int × Int) : ups p m q m = q := if_pos rfl
theorem ups_n (p : Nat → Int × Int) {m j : Nat} (q : Int × Int) (h : j ≠ m) : ups p m q j = p j := if_neg h
theorem rng_ups {s : Sv} {B C m : Nat} {p : Nat → Int × Int} {q : Int × Int} (h : rng s B p) (hB : B ≤ C) (hq : q.1.natAbs ≤ C ∧ q.2.natAbs ≤ C) : rng s C (ups p m q) := by
  intro i hi
  by_cases e : i = m
  · subst e
    rw [ups_s]
    exact hq
  · rw [ups_n _ _ e]
    exact h.mono hB i hi
/-- the model's heap while a mark goes -/
def GK (m : Nat) (M M' : Nat → Nat → Int32) : Prop := frm [70, 71] [] M M' ∧ ∀ j, j ≠ m → M' 70 j = M 70 j ∧ M' 71 j = M 71 j
theorem GK.rf (m : Nat) (M : Nat → Nat → Int32) : GK m M M := ⟨frm.rf _ _ _, fun _ _ => ⟨rfl, rfl⟩⟩
theorem GK.u {m : Nat} {M M' : Nat → Nat → Int32} (h : GK m M M') (x y : Int32) : GK m M (px_uR (px_uR M' 70 (upd (M' 70) m x)) 71 (upd (M' 71) m y)) := by
  refine ⟨(h.1.u 70 _ (by decide) (by decide)).u 71 _ (by decide) (by decide), fun j hj => ?_⟩
  show upd (M' 70) m x j = M 70 j ∧ upd (M' 71) m y j = M 71 j
  rw [pk_un hj, pk_un hj]
  exact h.2 j hj
theorem GK.p {s : Sv} {m : Nat} {p : Nat → Int × Int} {M M' : Nat → Nat → Int32} (hp' : IMp s p M) (h : GK m M M') (q : Int × Int) : IMp s (ups p m q) (px_uR (px_uR M' 70 (upd (M' 70) m (iI q.1))) 71 (upd (M' 71) m (iI q.2))) := by
  intro i hi
  show upd (M' 70) m (iI q.1) i = iI (ups p m q i).1 ∧ upd (M' 71) m (iI q.2) i = iI (ups p m q i).2
  by_cases e : i = m
  · subst e
    rw [pk_us, pk_us, ups_s]
    exact ⟨rfl, rfl⟩
  · rw [pk_un e, pk_un e, ups_n _ _ e, (h.2 i e).1, (h.2 i e).2]
    exact hp' i hi
theorem GK.t {s : Sv} {m : Nat} {M M' : Nat → Nat → Int32} (hI : IMt s M) (h : GK m M M') : IMt s M' := by
  unfold IMt
  rw [h.1.1 73 (by decide) (by decide), h.1.1 74 (by decide) (by decide), h.1.1 75 (by decide) (by decide), h.1.2 0 (by decide), h.1.2 6 (by decide)]
  exact hI
section S69
variable (d : Nat) (M : Nat → Nat → Int32) (J : Nat → Nat → Int64) (R : Nat → Nat → Option Nat) (c e nL : Nat) (xs : Nat → Int32) (D : px_H)
theorem m_goes_1 {s : Sv} {o : Nat → Bool} {p : Nat → Int × Int} {w : Nat} (hs : ISt s) (hI : IMt s M) (hp' : IMp s p M) (hr : rng s 9092 p) (ho : ∀ j, j < St s → M 76 j = if o j = true then 1 else 0) {m : Nat} (hm : m < Sm s) (hB : (p m).1.natAbs + w ≤ 9092 ∧ (p m).2.natAbs + w ≤ 9092) {M' : Nat → Nat → Int32} (hG : GK m M M') (a b : Int) (ha : -1 ≤ a ∧ a ≤ 1) (hb : -1 ≤ b ∧ b ≤ 1) (z : (Int × Int) × Int) (hz : 0 ≤ z.2 ∧ z.2 ≤ 4611686018427387904) (o11 o12 : Option Value) : ∃ M'', GK m M M'' ∧ px_run (px_mk (kX12_goes (px_ex px_tab (d + 3)))) 41 ([some (Value.ref (67)), some (Value.int (nI m)), some (Value.int (nI w)), some (Value.int (iI (p m).1)), some (Value.int (iI (p m).2)), some (Value.int (iI z.1.1)), some (Value.int (iI z.1.2)), some (Value.long (iL z.2)), none, some (Value.int (iI a)), some (Value.int (iI b)), o11, o12], [], (hp (M') (J) (R) (c) (e) nL xs (D))) = px_run (px_mk (kX12_goes (px_ex px_tab (d + 3)))) 41 ([some (Value.ref (67)), some (Value.int (nI m)), some (Value.int (nI w)), some (Value.int (iI (p m).1)), some (Value.int (iI (p m).2)), some (Value.int (iI (sv_try s o p m z ((p m).1 + a * w, (p m).2 + b * w)).1.1)), some (Value.int (iI (sv_try s o p m z ((p m).1 + a * w, (p m).2 + b * w)).1.2)), some (Value.long (iL (sv_try s o p m z ((p m).1 + a * w, (p m).2 + b * w)).2)), none, some (Value.int (iI a)), some (Value.int (iI (b + 1))), none, none], [], (hp (M'') (J) (R) (c) (e) nL xs (D))) ∧ 0 ≤ (sv_try s o p m z ((p m).1 + a * w, (p m).2 + b * w)).2 ∧ (sv_try s o p m z ((p m).1 + a * w, (p m).2 + b * w)).2 ≤ 4611686018427387904 := by
  have h8 := hs.1
  have h24 := hs.2.1
  generalize hq : ((p m).1 + a * w, (p m).2 + b * w) = q
  have q1 : iI (p m).1 + iI a * nI w = iI q.1 := by
    rw [← hq, ← iI_nat, iI_mul, iI_add]
  have q2 : iI (p m).2 + iI b * nI w = iI q.2 := by
    rw [← hq, ← iI_nat, iI_mul, iI_add]
  have qb : q.1.natAbs ≤ 9092 ∧ q.2.natAbs ≤ 9092 := by
    obtain ⟨r1, r2⟩ := hB
    rw [← hq]
    have a3 : a = -1 ∨ a = 0 ∨ a = 1 := by omega
    have b3 : b = -1 ∨ b = 0 ∨ b = 1 := by omega
    constructor
    · show ((p m).1 + a * w).natAbs ≤ 9092
      rcases a3 with rfl | rfl | rfl <;> omega
    · show ((p m).2 + b * w).natAbs ≤ 9092
      rcases b3 with rfl | rfl | rfl <;> omega
  have hr' : rng s 9092 (ups p m q) := rng_ups hr (Nat.le_refl _) qb
  have hG' := hG.u (iI q.1) (iI q.2)
  have ms := m_misses d (px_uR (px_uR M' 70 (upd (M' 70) m (iI q.1))) 71 (upd (M' 71) m (iI q.2))) J R c e nL xs D (o := o) hs (hG'.t hI) (hG.p hp' q) hr' (by
    intro j hj
    rw [hG'.1.1 76 (by decide) (by decide)]
    exact ho j hj) hm
  have sb := sv_sum_b hs hr' o m (St s) (Nat.le_refl _)
  have x1 : ¬ (1 : Int32) < iI b := by
    rcases (by omega : b = -1 ∨ b = 0 ∨ b = 1) with rfl | rfl | rfl <;> decide
  have cm : (0 ≤ lg_cmp (iL (sv_sum s o (ups p m q) m (St s))) (iL z.2)) ↔ ¬ sv_sum s o (ups p m q) m (St s) < z.2 := by
    rw [lg_cmp_ge, iL_le hz (by omega)]
    omega
  have b1 : iI b + 1 = iI (b + 1) := iI_add b 1
  refine ⟨_, hG', ?_, ?_⟩
  · rw [eX12_goes_41]
    simp (disch := omega) only [px_bd_s, px_psh_s, px_psh_n, px_vb_s, px_ib_s, px_wb_s, px_bo_s, px_bo_n, Bool.cond_decide, cond_true, cond_false, ite_not, Bool.and_true, if_true, if_false, not_true_eq_false, not_false_eq_true, i10, eq_self, decide_true, decide_false, Bool.or_true, Bool.true_or, Bool.or_false, Bool.false_or, Bool.false_eq_true, x1, px_inbT, nI_clamp, q1, q2, ms, eX12_goes_41_24, cm]
    unfold sv_try
    by_cases h : sv_sum s o (ups p m q) m (St s) < z.2
    · simp only [px_bd_s, px_psh_s, px_psh_n, px_vb_s, px_ib_s, px_wb_s, px_bo_s, px_bo_n, Bool.cond_decide, cond_true, cond_false, ite_not, Bool.and_true, if_true, if_false, not_true_eq_false, not_false_eq_true, i10, eq_self, decide_true, decide_false, Bool.or_true, Bool.true_or, Bool.or_false, Bool.false_or, Bool.false_eq_true, h, eX12_goes_107, b1]
      show px_run _ _ ([_, _, _, _, _, some (.int (upd (M' 70) m (iI q.1) m)), some (.int (upd (M' 71) m (iI q.2) m)), _, _, _, _, _, _], _, _) = _
      rw [pk_us, pk_us]
    · simp only [px_bd_s, px_psh_s, px_psh_n, px_vb_s, px_ib_s, px_wb_s, px_bo_s, px_bo_n, Bool.cond_decide, cond_true, cond_false, ite_not, Bool.and_true, if_true, if_false, not_true_eq_false, not_false_eq_true, i10, eq_self, decide_true, decide_false, Bool.or_true, Bool.true_or, Bool.or_false, Bool.false_or, Bool.false_eq_true, h, eX12_goes_107, b1]
  · unfold sv_try
    split
    · show 0 ≤ sv_sum s o (ups p m q) m (St s) ∧ sv_sum s o (ups p m q) m (St s) ≤ 4611686018427387904
      omega
    · exact hz
theorem m_goes {s : Sv} {o : Nat → Bool} {p : Nat → Int × Int} {w : Nat} (hs : ISt s) (hI : IMt s M) (hp' : IMp s p M) (hr : rng s 9092 p) (ho : ∀ j, j < St s → M 76 j = if o j = true then 1 else 0) {m : Nat} (hm : m < Sm s) (hB : (p m).1.natAbs + w ≤ 9092 ∧ (p m).2.natAbs + w ≤ 9092) : ∃ M1, px_ex px_tab (d + 4) 176 [Value.ref (67), Value.int (nI m), Value.int (nI w)] (hp (M) (J) (R) (c) (e) nL xs (D)) = some (none, (hp (M1) (J) (R) (c) (e) nL xs (D))) ∧ IMp s (sv_go s o w p m) M1 ∧ frm [70, 71] [] M M1 := by
  have h8 := hs.1
  have h24 := hs.2.1
  obtain ⟨e1, e2⟩ := hp' m hm
  have ms := m_misses d M J R c e nL xs D (o := o) hs hI hp' hr ho hm
  have sb := sv_sum_b hs hr o m (St s) (Nat.le_refl _)
  have st : ∀ (i : Nat) (a b : Int) (o11 o12 : Option Value) (M' : Nat → Nat → Int32), GK m M M' → -1 ≤ a ∧ a ≤ 1 → -1 ≤ b ∧ b ≤ 1 → sv_at (p m) w i = ((p m).1 + a * w, (p m).2 + b * w) → 0 ≤ (sv_nine s o p m w i).2 ∧ (sv_nine s o p m w i).2 ≤ 4611686018427387904 → ∃ M'', GK m M M'' ∧ px_run (px_mk (kX12_goes (px_ex px_tab (d + 3)))) 41 ([some (Value.ref (67)), some (Value.int (nI m)), some (Value.int (nI w)), some (Value.int (iI (p m).1)), some (Value.int (iI (p m).2)), some (Value.int (iI (sv_nine s o p m w i).1.1)), some (Value.int (iI (sv_nine s o p m w i).1.2)), some (Value.long (iL (sv_nine s o p m w i).2)), none, some (Value.int (iI a)), some (Value.int (iI b)), o11, o12], [], (hp (M') (J) (R) (c) (e) nL xs (D))) = px_run (px_mk (kX12_goes (px_ex px_tab (d + 3)))) 41 ([some (Value.ref (67)), some (Value.int (nI m)), some (Value.int (nI w)), some (Value.int (iI (p m).1)), some (Value.int (iI (p m).2)), some (Value.int (iI (sv_nine s o p m w (i + 1)).1.1)), some (Value.int (iI (sv_nine s o p m w (i + 1)).1.2)), some (Value.long (iL (sv_nine s o p m w (i + 1)).2)), none, some (Value.int (iI a)), some (Value.int (iI (b + 1))), none, none], [], (hp (M'') (J) (R) (c) (e) nL xs (D))) ∧ 0 ≤ (sv_nine s o p m w (i + 1)).2 ∧ (sv_nine s o p m w (i + 1)).2 ≤ 4611686018427387904 := by
    intro i a b o11 o12 M' hG ha hb hat hz
    have q := m_goes_1 d M J R c e nL xs D hs hI hp' hr ho hm hB hG a b ha hb (sv_nine s o p m w i) hz o11 o12
    rw [← hat] at q
    exact q
  have rw3 : ∀ (i : Nat) (a : Int) (o10 o11 o12 : Option Value) (M' : Nat → Nat → Int32), GK m M M' → -1 ≤ a ∧ a ≤ 1 → (sv_at (p m) w i = ((p m).1 + a * w, (p m).2 + -1 * w) ∧ sv_at (p m) w (i + 1) = ((p m).1 + a * w, (p m).2 + 0 * w) ∧ sv_at (p m) w (i + 2) = ((p m).1 + a * w, (p m).2 + 1 * w)) → 0 ≤ (sv_nine s o p m w i).2 ∧ (sv_nine s o p m w i).2 ≤ 4611686018427387904 → ∃ M'', GK m M M'' ∧ px_run (px_mk (kX12_goes (px_ex px_tab (d + 3)))) 32 ([some (Value.ref (67)), some (Value.int (nI m)), some (Value.int (nI w)), some (Value.int (iI (p m).1)), some (Value.int (iI (p m).2)), some (Value.int (iI (sv_nine s o p m w i).1.1)), some (Value.int (iI (sv_nine s o p m w i).1.2)), some (Value.long (iL (sv_nine s o p m w i).2)), none, some (Value.int (iI a)), o10, o11, o12], [], (hp (M') (J) (R) (c) (e) nL xs (D))) = px_run (px_mk (kX12_goes (px_ex px_tab (d + 3)))) 32 ([some (Value.ref (67)), some (Value.int (nI m)), some (Value.int (nI w)), some (Value.int (iI (p m).1)), some (Value.int (iI (p m).2)), some (Value.int (iI (sv_nine s o p m w (i + 3)).1.1)), some (Value.int (iI (sv_nine s o p m w (i + 3)).1.2)), some (Value.long (iL (sv_nine s o p m w (i + 3)).2)), none, some (Value.int (iI (a + 1))), none, none, none], [], (hp (M'') (J) (R) (c) (e) nL xs (D))) ∧ 0 ≤ (sv_nine s o p m w (i + 3)).2 ∧ (sv_nine s o p m w (i + 3)).2 ≤ 4611686018427387904 := by
    intro i a o10 o11 o12 M' hG ha hat hz
    have x1 : ¬ (1 : Int32) < iI a := by
      rcases (by omega : a = -1 ∨ a = 0 ∨ a = 1) with rfl | rfl | rfl <;> decide
    obtain ⟨M1, g1, r1, z1⟩ := st i a (-1) none none M' hG ha (by omega) hat.1 hz
    obtain ⟨M2, g2, r2, z2⟩ := st (i + 1) a 0 none none M1 g1 ha (by omega) hat.2.1 z1
    obtain ⟨M3, g3, r3, z3⟩ := st (i + 2) a 1 none none M2 g2 ha (by omega) hat.2.2 z2
    refine ⟨M3, g3, ?_, z3⟩
    rw [eX12_goes_32]
    simp only [px_bd_s, px_psh_s, px_psh_n, px_vb_s, px_ib_s, px_wb_s, px_bo_s, px_bo_n, Bool.cond_decide, cond_true, cond_false, ite_not, Bool.and_true, if_true, if_false, not_true_eq_false, not_false_eq_true, i10, eq_self, decide_true, decide_false, Bool.or_true, Bool.true_or, Bool.or_false, Bool.false_or, Bool.false_eq_true, x1]
    refine Eq.trans (show _ = _ from r1) (Eq.trans r2 (Eq.trans r3 ?_))
    rw [eX12_goes_41]
    simp only [px_bd_s, px_psh_s, px_psh_n, px_vb_s, px_ib_s, px_wb_s, px_bo_s, px_bo_n, Bool.cond_decide, cond_true, cond_false, ite_not, Bool.and_true, if_true, if_false, not_true_eq_false, not_false_eq_true, i10, eq_self, decide_true, decide_false, Bool.or_true, Bool.true_or, Bool.or_false, Bool.false_or, Bool.false_eq_true, show (1 : Int32) < iI (1 + 1) from by decide, eX12_goes_113]
    rw [show iI a + 1 = iI (a + 1) from iI_add a 1]
  obtain ⟨M1, g1, r1, z1⟩ := rw3 0 (-1) none none none M (GK.rf m M) (by omega) ⟨rfl, rfl, rfl⟩ (by show 0 ≤ sv_sum s o p m (St s) ∧ sv_sum s o p m (St s) ≤ 4611686018427387904; omega)
  obtain ⟨M2, g2, r2, z2⟩ := rw3 3 0 none none none M1 g1 (by omega) ⟨rfl, rfl, rfl⟩ z1
  obtain ⟨M3, g3, r3, z3⟩ := rw3 6 1 none none none M2 g2 (by omega) ⟨rfl, rfl, rfl⟩ z2
  refine ⟨_, ?_, g3.p hp' (sv_nine s o p m w 9).1, (g3.u _ _).1⟩
  rw [xX12_goes, eX12_goes_0]
  simp (disch := omega) only [px_bd_s, px_psh_s, px_psh_n, px_vb_s, px_ib_s, px_wb_s, px_bo_s, px_bo_n, Bool.cond_decide, cond_true, cond_false, ite_not, Bool.and_true, if_true, if_false, not_true_eq_false, not_false_eq_true, i10, eq_self, decide_true, decide_false, Bool.or_true, Bool.true_or, Bool.or_false, Bool.false_or, Bool.false_eq_true, px_inbT, nI_clamp, ms, e1, e2, eX12_goes_0_17]
  refine Eq.trans (show _ = _ from r1) (Eq.trans r2 (Eq.trans r3 ?_))
  rw [eX12_goes_32]
  simp only [px_bd_s, px_psh_s, px_psh_n, px_vb_s, px_ib_s, px_wb_s, px_bo_s, px_bo_n, Bool.cond_decide, cond_true, cond_false, ite_not, Bool.and_true, if_true, if_false, not_true_eq_false, not_false_eq_true, i10, eq_self, decide_true, decide_false, Bool.or_true, Bool.true_or, Bool.or_false, Bool.false_or, Bool.false_eq_true, show (1 : Int32) < iI (1 + 1) from by decide]
  rw [eX12_goes_119]
  simp (disch := omega) only [px_bd_s, px_psh_s, px_psh_n, px_vb_s, px_ib_s, px_wb_s, px_bo_s, px_bo_n, Bool.cond_decide, cond_true, cond_false, ite_not, Bool.and_true, if_true, if_false, not_true_eq_false, not_false_eq_true, i10, eq_self, decide_true, decide_false, Bool.or_true, Bool.true_or, Bool.or_false, Bool.false_or, Bool.false_eq_true, px_inbT, nI_clamp]
end S69
