/-! PART 64: the model's sum of squares at a mark -/
def iL (z : Int) : Int64 := Int64.ofInt z
theorem iL_add (a b : Int) : iL a + iL b = iL (a + b) := (Int64.ofInt_add a b).symm
theorem iL_mul (a b : Int) : iL a * iL b = iL (a * b) := (Int64.ofInt_mul a b).symm
theorem iI_L {z : Int} (h1 : -2147483648 ≤ z) (h2 : z < 2147483648) : (iI z).toInt64 = iL z := by
  apply Int64.toInt_inj.mp
  unfold iI iL
  rw [Int32.toInt_toInt64, Int32.toInt_ofInt_of_le (by omega) (by omega), Int64.toInt_ofInt_of_le (by omega) (by omega)]
theorem mis_b {s : Sv} {p : Nat → Int × Int} (hs : ISt s) (hr : rng s 9092 p) {k : Nat} (hk : k < St s) : -15000 ≤ sv_mis s p k ∧ sv_mis s p k ≤ 25716 := by
  obtain ⟨t1, t2, t3, t4, t5⟩ := hs.2.2 k hk
  obtain ⟨r1, r2⟩ := hr _ t1
  obtain ⟨r3, r4⟩ := hr _ t2
  have hb := sq2_b (u := (p (Sa s k)).1 - (p (Sb s k)).1) (v := (p (Sa s k)).2 - (p (Sb s k)).2) (by omega) (by omega)
  have hq : rt (sq2 ((p (Sa s k)).1 - (p (Sb s k)).1) ((p (Sa s k)).2 - (p (Sb s k)).2)) < 25717 := by
    rcases Nat.lt_or_ge (rt (sq2 ((p (Sa s k)).1 - (p (Sb s k)).1) ((p (Sa s k)).2 - (p (Sb s k)).2))) 25717 with q | q
    · exact q
    · have := rt_le.mp q
      omega
  unfold sv_mis
  omega
theorem sv_sum_s (s : Sv) (o : Nat → Bool) (p : Nat → Int × Int) (m k : Nat) : sv_sum s o p m (k + 1) = sv_sum s o p m k + (if o k = false ∧ (Sa s k = m ∨ Sb s k = m) then sv_mis s p k * sv_mis s p k else 0) := rfl
section S64
variable (d : Nat) (M : Nat → Nat → Int32) (J : Nat → Nat → Int64) (R : Nat → Nat → Option Nat) (c e nL : Nat) (xs : Nat → Int32) (D : px_H)
theorem m_misses_l {s : Sv} {o : Nat → Bool} {p : Nat → Int × Int} (hs : ISt s) (hI : IMt s M) (hq : ∀ k, k < St s → px_ex px_tab (d) 174 [Value.ref (67), Value.int (nI k)] (hp (M) (J) (R) (c) (e) nL xs (D)) = some (some (Value.int (iI (sv_mis s p k))), (hp (M) (J) (R) (c) (e) nL xs (D)))) (hr : rng s 9092 p) (ho : ∀ j, j < St s → M 76 j = if o j = true then 1 else 0) {m : Nat} (hm : m < Sm s) : ∀ (g k : Nat) (o5 o6 : Option Value), k + g = St s → px_run (px_mk (kX12_misses (px_ex px_tab d))) 5 ([some (Value.ref (67)), some (Value.int (nI m)), some (Value.long (iL (sv_sum s o p m k))), none, some (Value.int (nI k)), o5, o6], [], (hp (M) (J) (R) (c) (e) nL xs (D))) = some (some (Value.long (iL (sv_sum s o p m (St s)))), (hp (M) (J) (R) (c) (e) nL xs (D)))
  | 0, k, o5, o6, hk => by
    have h8 := hs.1
    have ht := hs.2.1
    rw [eX12_misses_5, show k = St s from by omega]
    simp (disch := omega) only [px_bd_s, px_psh_s, px_psh_n, px_vb_s, px_ib_s, px_wb_s, px_bo_s, px_bo_n, Bool.cond_decide, cond_true, cond_false, ite_not, Bool.and_true, if_true, if_false, not_true_eq_false, not_false_eq_true, i10, eq_self, decide_true, decide_false, Bool.or_true, Bool.true_or, Bool.or_false, Bool.false_or, hI.2.1, nI_leI, if_pos, eX12_misses_69, Nat.le_refl]
  | g + 1, k, o5, o6, hk => by
    have h8 := hs.1
    have ht := hs.2.1
    obtain ⟨t1, t2, t3, t4, t5⟩ := hs.2.2 k (by omega)
    obtain ⟨i1, i2, i3⟩ := hI.2.2 k (by omega)
    have ih := m_misses_l hs hI hq hr ho hm g (k + 1)
    rw [sv_sum_s] at ih
    rw [eX12_misses_5]
    have x0 : ¬ nI (St s) ≤ nI k := fun q => by
      have := (nI_leI (by omega) (by omega)).mp q
      omega
    have xa : (nI (Sa s k) = nI m) ↔ Sa s k = m := nI_eq (by omega) (by omega)
    have xb : (nI (Sb s k) = nI m) ↔ Sb s k = m := nI_eq (by omega) (by omega)
    simp (disch := omega) only [px_bd_s, px_psh_s, px_psh_n, px_vb_s, px_ib_s, px_wb_s, px_bo_s, px_bo_n, Bool.cond_decide, cond_true, cond_false, ite_not, Bool.and_true, if_true, if_false, not_true_eq_false, not_false_eq_true, i10, eq_self, decide_true, decide_false, Bool.or_true, Bool.true_or, Bool.or_false, Bool.false_or, hI.2.1, x0, px_inbT, nI_clamp, ho k (by omega), i1, i2, xa, xb]
    have b := mis_b hs hr (k := k) (by omega)
    have eL := iI_L (z := sv_mis s p k) (by omega) (by omega)
    have mm := hq k (by omega)
    by_cases h1 : o k = true
    · rw [if_neg (fun q => by rw [h1] at q; cases q.1), Int.add_zero] at ih
      simp only [px_bd_s, px_psh_s, px_psh_n, px_vb_s, px_ib_s, px_wb_s, px_bo_s, px_bo_n, Bool.cond_decide, cond_true, cond_false, ite_not, Bool.and_true, if_true, if_false, not_true_eq_false, not_false_eq_true, i10, eq_self, decide_true, decide_false, Bool.or_true, Bool.true_or, Bool.or_false, Bool.false_or, h1, eX12_misses_63, zp1]
      exact ih _ _ (by omega)
    · have h1' : o k = false := by
        cases h : o k
        · rfl
        · exact absurd h h1
      by_cases h2 : Sa s k = m
      · rw [if_pos ⟨h1', Or.inl h2⟩] at ih
        simp only [px_bd_s, px_psh_s, px_psh_n, px_vb_s, px_ib_s, px_wb_s, px_bo_s, px_bo_n, Bool.cond_decide, cond_true, cond_false, ite_not, Bool.and_true, if_true, if_false, not_true_eq_false, not_false_eq_true, i10, eq_self, decide_true, decide_false, Bool.or_true, Bool.true_or, Bool.or_false, Bool.false_or, h1, h2, eX12_misses_46, mm, eX12_misses_46_3, eX12_misses_63, zp1, eL, iL_mul, iL_add]
        exact ih _ _ (by omega)
      · by_cases h3 : Sb s k = m
        · rw [if_pos ⟨h1', Or.inr h3⟩] at ih
          simp only [px_bd_s, px_psh_s, px_psh_n, px_vb_s, px_ib_s, px_wb_s, px_bo_s, px_bo_n, Bool.cond_decide, cond_true, cond_false, ite_not, Bool.and_true, if_true, if_false, not_true_eq_false, not_false_eq_true, i10, eq_self, decide_true, decide_false, Bool.or_true, Bool.true_or, Bool.or_false, Bool.false_or, h1, h2, h3, eX12_misses_46, mm, eX12_misses_46_3, eX12_misses_63, zp1, eL, iL_mul, iL_add]
          exact ih _ _ (by omega)
        · rw [if_neg (fun q => by rcases q.2 with z | z; exact h2 z; exact h3 z), Int.add_zero] at ih
          simp only [px_bd_s, px_psh_s, px_psh_n, px_vb_s, px_ib_s, px_wb_s, px_bo_s, px_bo_n, Bool.cond_decide, cond_true, cond_false, ite_not, Bool.and_true, if_true, if_false, not_true_eq_false, not_false_eq_true, i10, eq_self, decide_true, decide_false, Bool.or_true, Bool.true_or, Bool.or_false, Bool.false_or, h1, h2, h3, eX12_misses_63, zp1]
          exact ih _ _ (by omega)
theorem m_misses {s : Sv} {o : Nat → Bool} {p : Nat → Int × Int} (hs : ISt s) (hI : IMt s M) (hp' : IMp s p M) (hr : rng s 9092 p) (ho : ∀ j, j < St s → M 76 j = if o j = true then 1 else 0) {m : Nat} (hm : m < Sm s) : px_ex px_tab (d + 3) 175 [Value.ref (67), Value.int (nI m)] (hp (M) (J) (R) (c) (e) nL xs (D)) = some (some (Value.long (iL (sv_sum s o p m (St s)))), (hp (M) (J) (R) (c) (e) nL xs (D))) := by
  rw [xX12_misses, eX12_misses_0]
  exact m_misses_l (d + 2) M J R c e nL xs D hs hI (fun k hk => m_miss d M J R c e nL xs D hs hI hp' hr hk) hr ho hm (St s) 0 none none (by omega)
end S64
