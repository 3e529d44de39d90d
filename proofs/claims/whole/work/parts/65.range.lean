/-! PART 65: how far a mark can go -/
theorem sv_at_b {q : Int × Int} {w B i : Nat} (hi : i < 9) (h : q.1.natAbs ≤ B ∧ q.2.natAbs ≤ B) : (sv_at q (w : Int) i).1.natAbs ≤ B + w ∧ (sv_at q (w : Int) i).2.natAbs ≤ B + w := by
  unfold sv_at
  rcases (by omega : i = 0 ∨ i = 1 ∨ i = 2 ∨ i = 3 ∨ i = 4 ∨ i = 5 ∨ i = 6 ∨ i = 7 ∨ i = 8) with rfl | rfl | rfl | rfl | rfl | rfl | rfl | rfl | rfl <;> (simp only [Nat.reduceDiv, Nat.reduceMod]; constructor <;> omega)
theorem sv_nine_b (s : Sv) (o : Nat → Bool) {p : Nat → Int × Int} {m w B : Nat} (h : (p m).1.natAbs ≤ B ∧ (p m).2.natAbs ≤ B) : ∀ i, i ≤ 9 → (sv_nine s o p m (w : Int) i).1.1.natAbs ≤ B + w ∧ (sv_nine s o p m (w : Int) i).1.2.natAbs ≤ B + w
  | 0, _ => ⟨Nat.le_trans h.1 (Nat.le_add_right _ _), Nat.le_trans h.2 (Nat.le_add_right _ _)⟩
  | i + 1, hi => by
    show (sv_try s o p m (sv_nine s o p m (w : Int) i) (sv_at (p m) (w : Int) i)).1.1.natAbs ≤ B + w ∧ (sv_try s o p m (sv_nine s o p m (w : Int) i) (sv_at (p m) (w : Int) i)).1.2.natAbs ≤ B + w
    unfold sv_try
    split
    · exact sv_at_b (by omega) h
    · exact sv_nine_b s o h i (by omega)
