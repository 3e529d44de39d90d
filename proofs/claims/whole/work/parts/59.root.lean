/-! PART 59: the cut root -/
theorem rt_s (s : Nat) : rt (s + 1) = if (rt s + 1) * (rt s + 1) ≤ s + 1 then rt s + 1 else rt s := rfl
theorem rt_ok : ∀ s, rt s * rt s ≤ s ∧ s < (rt s + 1) * (rt s + 1)
  | 0 => by decide
  | s + 1 => by
    obtain ⟨h1, h2⟩ := rt_ok s
    rw [rt_s]
    by_cases h : (rt s + 1) * (rt s + 1) ≤ s + 1
    · rw [if_pos h]
      refine ⟨h, ?_⟩
      have e : (rt s + 1 + 1) * (rt s + 1 + 1) = (rt s + 1) * (rt s + 1) + 2 * (rt s + 1) + 1 := by
        rw [Nat.add_mul (rt s + 1) 1, Nat.mul_add]
        omega
      omega
    · rw [if_neg h]
      exact ⟨by omega, by omega⟩
theorem rt_un {s r : Nat} (h1 : r * r ≤ s) (h2 : s < (r + 1) * (r + 1)) : rt s = r := by
  obtain ⟨k1, k2⟩ := rt_ok s
  rcases Nat.lt_trichotomy (rt s) r with h | h | h
  · have z : (rt s + 1) * (rt s + 1) ≤ s := Nat.le_trans (Nat.mul_le_mul h h) h1
    exact absurd k2 (Nat.not_lt.mpr z)
  · exact h
  · have z : (r + 1) * (r + 1) ≤ s := Nat.le_trans (Nat.mul_le_mul h h) k1
    exact absurd h2 (Nat.not_lt.mpr z)
theorem rt_le {s r : Nat} : r ≤ rt s ↔ r * r ≤ s := by
  obtain ⟨k1, k2⟩ := rt_ok s
  constructor
  · intro h
    exact Nat.le_trans (Nat.mul_le_mul h h) k1
  · intro h
    rcases Nat.lt_or_ge (rt s) r with q | q
    · have z : (rt s + 1) * (rt s + 1) ≤ s := Nat.le_trans (Nat.mul_le_mul q q) h
      exact absurd k2 (Nat.not_lt.mpr z)
    · exact q
theorem iI_add (a b : Int) : iI a + iI b = iI (a + b) := (Int32.ofInt_add a b).symm
theorem iI_mul (a b : Int) : iI a * iI b = iI (a * b) := (Int32.ofInt_mul a b).symm
theorem iI_sub (a b : Int) : iI a - iI b = iI (a - b) := (Int32.ofInt_sub a b).symm
theorem iI_nat (n : Nat) : iI (n : Int) = nI n := by
  show Int32.ofInt (n : Int) = Int32.ofNat n
  rfl
