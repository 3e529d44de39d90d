/-! PART 67: the whole fit stays near; a sweep that moves nothing is the last -/
theorem rng.mono {s : Sv} {B C : Nat} {p : Nat → Int × Int} (h : rng s B p) (hc : B ≤ C) : rng s C p := fun i hi => ⟨Nat.le_trans (h i hi).1 hc, Nat.le_trans (h i hi).2 hc⟩
theorem stp_n : ∀ k, k < 10 → 5000 + 4 * (1024 - 1024 / 2 ^ k) + 4 * (512 / 2 ^ k) ≤ 5000 + 4 * (1024 - 1024 / 2 ^ (k + 1)) := by decide
theorem sv_stp_b (s : Sv) (o : Nat → Bool) (h : rng s 5000 (fun j => (Sx s j, Sy s j))) : ∀ k, k ≤ 10 → rng s (5000 + 4 * (1024 - 1024 / 2 ^ k)) (sv_stp s o k)
  | 0, _ => h.mono (by decide)
  | k + 1, hk => (sv_tms_b s o (w := 512 / 2 ^ k) (sv_stp_b s o h k (by omega)) 4).mono (stp_n k (by omega))
theorem sv_tms_fix (s : Sv) (o : Nat → Bool) (w : Int) (p : Nat → Int × Int) (k : Nat) (h : sv_swp s o w (sv_tms s o w p k) (Sm s) = sv_tms s o w p k) : ∀ j, sv_tms s o w p (k + j) = sv_tms s o w p k
  | 0 => rfl
  | j + 1 => by
    show sv_swp s o w (sv_tms s o w p (k + j)) (Sm s) = sv_tms s o w p k
    rw [sv_tms_fix s o w p k h j]
    exact h
