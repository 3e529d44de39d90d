/-! PART 66: how far a sweep, and all of them, can go -/
theorem sv_swp_s (s : Sv) (o : Nat → Bool) (w : Int) (p : Nat → Int × Int) (k : Nat) : sv_swp s o w p (k + 1) = if Sf s k = true then sv_swp s o w p k else sv_go s o w (sv_swp s o w p k) k := rfl
theorem sv_swp_o (s : Sv) (o : Nat → Bool) (w : Int) (p : Nat → Int × Int) : ∀ k i, k ≤ i → sv_swp s o w p k i = p i
  | 0, i, _ => rfl
  | k + 1, i, h => by
    rw [sv_swp_s]
    split
    · exact sv_swp_o s o w p k i (by omega)
    · unfold sv_go ups
      rw [if_neg (by omega)]
      exact sv_swp_o s o w p k i (by omega)
theorem sv_swp_b (s : Sv) (o : Nat → Bool) {p : Nat → Int × Int} {w B : Nat} (h : rng s B p) : ∀ k, k ≤ Sm s → rng s (B + w) (sv_swp s o (w : Int) p k)
  | 0, _ => fun i hi => ⟨Nat.le_trans (h i hi).1 (Nat.le_add_right _ _), Nat.le_trans (h i hi).2 (Nat.le_add_right _ _)⟩
  | k + 1, hk => by
    rw [sv_swp_s]
    split
    · exact sv_swp_b s o h k (by omega)
    · intro i hi
      unfold sv_go ups
      by_cases e : i = k
      · rw [if_pos e]
        refine sv_nine_b s o ?_ 9 (by omega)
        rw [sv_swp_o s o _ p k k (by omega)]
        exact h k (by omega)
      · rw [if_neg e]
        exact sv_swp_b s o h k (by omega) i hi
theorem sv_tms_b (s : Sv) (o : Nat → Bool) {p : Nat → Int × Int} {w B : Nat} (h : rng s B p) : ∀ k, rng s (B + k * w) (sv_tms s o (w : Int) p k)
  | 0 => fun i hi => ⟨Nat.le_trans (h i hi).1 (Nat.le_add_right _ _), Nat.le_trans (h i hi).2 (Nat.le_add_right _ _)⟩
  | k + 1 => by
    have q := sv_swp_b s o (w := w) (sv_tms_b s o (w := w) h k) (Sm s) (Nat.le_refl _)
    rw [Nat.succ_mul, ← Nat.add_assoc]
    exact q
