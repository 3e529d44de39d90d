/-! PART 45: PLANS: sets as numbers, sums over them, best merits -/
def bs (f : Nat → Int) (s : Nat) : Nat → Int
  | 0 => 0
  | k + 1 => bs f s k + (if s.testBit k then f k else 0)
theorem bs_s (f : Nat → Int) (s k : Nat) : bs f s (k + 1) = bs f s k + (if s.testBit k then f k else 0) := rfl
theorem bs_c {f f' : Nat → Int} {s s' : Nat} : ∀ k, (∀ t, t < k → s.testBit t = s'.testBit t ∧ (s.testBit t = true → f t = f' t)) → bs f s k = bs f' s' k
  | 0, _ => rfl
  | k + 1, h => by
    rw [bs_s, bs_s, bs_c k (fun t ht => h t (by omega))]
    obtain ⟨h1, h2⟩ := h k (by omega)
    rw [← h1]
    cases hb : s.testBit k with
    | false => rfl
    | true => rw [h2 hb]
theorem bs_split {f : Nat → Int} {s q r : Nat} : ∀ k, (∀ t, t < k → (s.testBit t = (q.testBit t || r.testBit t)) ∧ (q.testBit t && r.testBit t) = false) → bs f s k = bs f q k + bs f r k
  | 0, _ => rfl
  | k + 1, h => by
    rw [bs_s, bs_s, bs_s, bs_split k (fun t ht => h t (by omega))]
    obtain ⟨h1, h2⟩ := h k (by omega)
    rw [h1]
    cases hq : q.testBit k <;> cases hr : r.testBit k
    · simp
    · simp; omega
    · simp; omega
    · rw [hq, hr] at h2; cases h2
theorem bs_mono {f f' : Nat → Int} {s : Nat} : ∀ k, (∀ t, t < k → s.testBit t = true → f t ≤ f' t) → bs f s k ≤ bs f' s k
  | 0, _ => Int.le_refl _
  | k + 1, h => by
    rw [bs_s, bs_s]
    have ih := bs_mono k (fun t ht => h t (by omega))
    have hk := h k (by omega)
    cases hb : s.testBit k with
    | false => simp; exact ih
    | true =>
      have := hk hb
      all_goals simp
      omega
theorem bs_0 (s : Nat) : ∀ k, bs (fun _ => 0) s k = 0
  | 0 => rfl
  | k + 1 => by rw [bs_s, bs_0 s k]; split <;> rfl
theorem bs_sub (f f' : Nat → Int) (s : Nat) : ∀ k, bs (fun t => f t - f' t) s k = bs f s k - bs f' s k
  | 0 => rfl
  | k + 1 => by rw [bs_s, bs_s, bs_s, bs_sub f f' s k]; split <;> omega
theorem bs_mul (c : Int) (f : Nat → Int) (s : Nat) : ∀ k, bs (fun t => c * f t) s k = c * bs f s k
  | 0 => by show (0 : Int) = c * 0; rw [Int.mul_zero]
  | k + 1 => by rw [bs_s, bs_s, bs_mul c f s k, Int.mul_add]; split <;> simp
/-- the set of a test -/
def fm (q : Nat → Bool) : Nat → Nat
  | 0 => 0
  | k + 1 => if q k then 2 ^ k + fm q k else fm q k
theorem fm_lt (q : Nat → Bool) : ∀ k, fm q k < 2 ^ k
  | 0 => Nat.one_pos
  | k + 1 => by
    have ih := fm_lt q k
    unfold fm
    rw [Nat.pow_succ]
    split <;> omega
theorem fm_bit (q : Nat → Bool) (t : Nat) : ∀ k, (fm q k).testBit t = (decide (t < k) && q t)
  | 0 => by
    unfold fm
    all_goals simp
  | k + 1 => by
    have ih := fm_bit q t k
    have hl := fm_lt q k
    unfold fm
    cases hq : q k with
    | false =>
      simp only [Bool.false_eq_true, if_false]
      rw [ih]
      by_cases h : t = k
      · rw [h, hq]; simp
      · rw [show decide (t < k + 1) = decide (t < k) from decide_eq_decide.mpr (by omega)]
    | true =>
      simp only [if_true]
      rcases Nat.lt_trichotomy t k with h | h | h
      · rw [Nat.testBit_two_pow_add_gt h, ih, decide_eq_true h, decide_eq_true (show t < k + 1 by omega)]
      · rw [h, Nat.testBit_two_pow_add_eq, Nat.testBit_lt_two_pow hl, hq, decide_eq_true (show k < k + 1 by omega)]
        rfl
      · rw [decide_eq_false (show ¬ t < k + 1 by omega), Nat.testBit_lt_two_pow (show 2 ^ k + fm q k < 2 ^ t from by
          have : 2 ^ (k + 1) ≤ 2 ^ t := Nat.pow_le_pow_right (by decide) (by omega)
          rw [Nat.pow_succ] at this
          omega)]
        rfl
theorem bs_id : ∀ x, x < 512 → bs (fun t => ((2 ^ t : Nat) : Int)) x 9 = (x : Int) := by decide +kernel
theorem sub_bit {s q : Nat} (hs : s < 512) (hq : q < 512) (h : ∀ t, q.testBit t = true → s.testBit t = true) : q ≤ s ∧ ∀ t, (s - q).testBit t = (s.testBit t && !q.testBit t) := by
  have hr : s ^^^ q < 512 := Nat.xor_lt_two_pow (n := 9) hs hq
  have hb : ∀ t, (s ^^^ q).testBit t = (s.testBit t && !q.testBit t) := by
    intro t
    rw [Nat.testBit_xor]
    have := h t
    cases hs : s.testBit t <;> cases hq : q.testBit t
    · rfl
    · rw [hs, hq] at this; cases this rfl
    · rfl
    · rfl
  have e : (s : Int) = (q : Int) + ((s ^^^ q : Nat) : Int) := by
    rw [← bs_id s hs, ← bs_id q hq, ← bs_id _ hr]
    apply bs_split
    intro t _
    rw [hb t]
    have := h t
    cases hs : s.testBit t <;> cases hq : q.testBit t
    · exact ⟨rfl, rfl⟩
    · rw [hs, hq] at this; cases this rfl
    · exact ⟨rfl, rfl⟩
    · exact ⟨rfl, rfl⟩
  have e2 : s - q = s ^^^ q := by omega
  exact ⟨by omega, fun t => by rw [e2]; exact hb t⟩
/-- the next smaller part of a set -/
theorem sub_next : ∀ (k p q s : Nat), s < 2 ^ k → p &&& s = p → q &&& s = q → q < p → q ≤ (p - 1) &&& s ∧ ((p - 1) &&& s) < p ∧ ((p - 1) &&& s) &&& s = (p - 1) &&& s
  | k, p, q, s, hs, hp, hq, hlt => by
    refine ⟨?_, ?_, by rw [Nat.and_assoc, Nat.and_self]⟩
    · induction k generalizing p q s with
      | zero =>
        have : s = 0 := by omega
        subst this
        rw [Nat.and_zero] at hp
        omega
      | succ k ih =>
        have hp2 : p / 2 &&& s / 2 = p / 2 := by rw [← Nat.and_div_two, hp]
        have hq2 : q / 2 &&& s / 2 = q / 2 := by rw [← Nat.and_div_two, hq]
        have hs2 : s / 2 < 2 ^ k := by rw [Nat.pow_succ] at hs; omega
        have hpm : (p &&& s) % 2 = p % 2 := by rw [hp]
        have hqm : (q &&& s) % 2 = q % 2 := by rw [hq]
        have am : ∀ a b : Nat, (a &&& b) % 2 = (a % 2) * (b % 2) := by
          intro a b
          have := Nat.and_mod_two_pow (a := a) (b := b) (n := 1)
          rw [Nat.pow_one] at this
          rw [this]
          rcases Nat.mod_two_eq_zero_or_one a with h | h <;> rcases Nat.mod_two_eq_zero_or_one b with h2 | h2 <;> rw [h, h2] <;> rfl
        rw [am] at hpm hqm
        have hd : ((p - 1) &&& s) / 2 = (p - 1) / 2 &&& s / 2 := Nat.and_div_two
        have hm : ((p - 1) &&& s) % 2 = ((p - 1) % 2) * (s % 2) := am _ _
        rcases Nat.mod_two_eq_zero_or_one p with h0 | h1
        · have e1 : (p - 1) / 2 = p / 2 - 1 := by omega
          have e2 : (p - 1) % 2 = 1 := by omega
          rw [e1] at hd
          rw [e2, Nat.one_mul] at hm
          have hq3 : q / 2 < p / 2 := by omega
          have := ih (p / 2) (q / 2) (s / 2) hs2 hp2 hq2 hq3
          have hqs : q % 2 ≤ s % 2 := by
            rcases Nat.mod_two_eq_zero_or_one q with a | a
            · omega
            · rw [a, Nat.one_mul] at hqm
              omega
          omega
        · have e1 : (p - 1) / 2 = p / 2 := by omega
          have e2 : (p - 1) % 2 = 0 := by omega
          rw [e1, hp2] at hd
          rw [e2, Nat.zero_mul] at hm
          omega
    · have := @Nat.and_le_left (p - 1) s
      omega
