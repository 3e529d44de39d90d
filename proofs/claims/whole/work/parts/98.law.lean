/-! PART 98: the law over the pure machine (TO BE PROVED) -/
theorem px_law_ok : ∀ (L : Nat) (xs : Nat → Int32), L ≤ 3072 → ∃ r : px_R, px_ex px_tab 60 256 [.ref 0] (px_ro0 L xs) = some r ∧ r.1 = some (.int 1) ∧ r.2.length ≤ 600000 ∧ px_sz r.2 ≤ 7302250 := sorry
