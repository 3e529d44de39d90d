/-! PART 62: squares of a step -/
theorem sq2_n (u v : Int) : sq2 u v = u.natAbs * u.natAbs + v.natAbs * v.natAbs := by
  unfold sq2
  rw [← Int.natAbs_mul_self (a := u), ← Int.natAbs_mul_self (a := v), ← Int.natCast_add, Int.toNat_natCast]
theorem sq2_I (u v : Int) : iI u * iI u + iI v * iI v = nI (sq2 u v) := by
  rw [iI_mul, iI_mul, iI_add, sq2_n, ← iI_nat, Int.natCast_add, Int.natAbs_mul_self, Int.natAbs_mul_self]
theorem sq2_b {u v : Int} (hu : u.natAbs ≤ 18184) (hv : v.natAbs ≤ 18184) : sq2 u v ≤ 661315712 := by
  rw [sq2_n]
  have h1 := Nat.mul_le_mul hu hu
  have h2 := Nat.mul_le_mul hv hv
  omega
theorem sq2_neg (u v u' v' : Int) (hu : u' = -u) (hv : v' = -v) : sq2 u' v' = sq2 u v := by
  rw [sq2_n, sq2_n, hu, hv, Int.natAbs_neg, Int.natAbs_neg]
