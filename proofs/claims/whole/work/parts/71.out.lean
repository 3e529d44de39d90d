/-! PART 71: which tape goes out; all are out in the end -/
theorem sv_w_s (s : Sv) (o : Nat → Bool) (p : Nat → Int × Int) (k : Nat) : sv_w s o p (k + 1) = if o k = false ∧ (sv_w s o p k).1 < ((sv_mis s p k).natAbs : Int) then (((sv_mis s p k).natAbs : Int), k) else sv_w s o p k := rfl
theorem sv_w_b (s : Sv) (o : Nat → Bool) (p : Nat → Int × Int) : ∀ k, -1 ≤ (sv_w s o p k).1 ∧ (0 ≤ (sv_w s o p k).1 → (sv_w s o p k).2 < k ∧ o (sv_w s o p k).2 = false)
  | 0 => ⟨by show (-1 : Int) ≤ -1; omega, fun h => by
      have h' : (0 : Int) ≤ -1 := h
      omega⟩
  | k + 1 => by
    obtain ⟨h1, h2⟩ := sv_w_b s o p k
    rw [sv_w_s]
    split
    · rename_i h
      refine ⟨?_, fun _ => ⟨by show k < k + 1; omega, h.1⟩⟩
      show (-1 : Int) ≤ ((sv_mis s p k).natAbs : Int)
      omega
    · exact ⟨h1, fun q => ⟨Nat.lt_succ_of_lt (h2 q).1, (h2 q).2⟩⟩
theorem sv_w_m {s : Sv} (hs : ISt s) (o : Nat → Bool) {p : Nat → Int × Int} (hr : rng s 9092 p) : ∀ k, k ≤ St s → (sv_w s o p k).1 ≤ 25716
  | 0, _ => by show (-1 : Int) ≤ 25716; omega
  | k + 1, hk => by
    have h1 := sv_w_m hs o hr k (by omega)
    have b := mis_b hs hr (k := k) (by omega)
    rw [sv_w_s]
    split
    · show ((sv_mis s p k).natAbs : Int) ≤ 25716
      omega
    · exact h1
/-- some tape in: the worst is one -/
theorem sv_w_i (s : Sv) (o : Nat → Bool) (p : Nat → Int × Int) : ∀ k j, j < k → o j = false → 0 ≤ (sv_w s o p k).1
  | 0, j, h, _ => by omega
  | k + 1, j, h, hj => by
    rw [sv_w_s]
    split
    · show (0 : Int) ≤ ((sv_mis s p k).natAbs : Int)
      omega
    · rename_i q
      by_cases e : j = k
      · subst e
        have : ¬ (sv_w s o p j).1 < ((sv_mis s p j).natAbs : Int) := fun z => q ⟨hj, z⟩
        omega
      · exact sv_w_i s o p k j (by omega) hj
def cntB (o : Nat → Bool) : Nat → Nat
  | 0 => 0
  | k + 1 => cntB o k + (if o k = true then 1 else 0)
theorem cntB_s (o : Nat → Bool) (k : Nat) : cntB o (k + 1) = cntB o k + (if o k = true then 1 else 0) := rfl
theorem cntB_le (o : Nat → Bool) : ∀ k, cntB o k ≤ k
  | 0 => Nat.le_refl _
  | k + 1 => by
    have := cntB_le o k
    rw [cntB_s]
    split <;> omega
theorem cntB_all (o : Nat → Bool) : ∀ k, cntB o k = k → ∀ j, j < k → o j = true
  | 0, _, j, hj => by omega
  | k + 1, h, j, hj => by
    have h1 := cntB_le o k
    rw [cntB_s] at h
    by_cases q : o k = true
    · rw [if_pos q] at h
      by_cases e : j = k
      · subst e
        exact q
      · exact cntB_all o k (by omega) j (by omega)
    · rw [if_neg q] at h
      omega
theorem cntB_or (o : Nat → Bool) (v : Nat) (hv : o v = false) : ∀ k, cntB (fun j => o j || decide (j = v)) k = cntB o k + (if v < k then 1 else 0)
  | 0 => rfl
  | k + 1 => by
    rw [cntB_s, cntB_s, cntB_or o v hv k]
    by_cases e : k = v
    · subst e
      simp [hv]
    · have e1 : (o k || decide (k = v)) = o k := by simp [e]
      rw [e1]
      by_cases l : v < k
      · rw [if_pos l, if_pos (show v < k + 1 by omega)]
        omega
      · rw [if_neg l, if_neg (show ¬ v < k + 1 by omega)]
        omega
theorem sv_out_s (s : Sv) (r : Nat) : sv_out s (r + 1) = fun j => sv_out s r j || (decide (0 ≤ sv_size s r) && decide (j = (sv_w s (sv_out s r) (sv_pos s r) (St s)).2)) := rfl
theorem sv_out_c (s : Sv) : ∀ r, r ≤ St s → r ≤ cntB (sv_out s r) (St s)
  | 0, _ => Nat.zero_le _
  | r + 1, hr => by
    have ih := sv_out_c s r (by omega)
    by_cases h : 0 ≤ sv_size s r
    · obtain ⟨w1, w2⟩ := (sv_w_b s (sv_out s r) (sv_pos s r) (St s)).2 h
      have e : sv_out s (r + 1) = fun j => sv_out s r j || decide (j = (sv_w s (sv_out s r) (sv_pos s r) (St s)).2) := by
        rw [sv_out_s]
        simp [h]
      rw [e, cntB_or _ _ w2, if_pos w1]
      omega
    · have e : sv_out s (r + 1) = sv_out s r := by
        rw [sv_out_s]
        simp [h]
      have all : cntB (sv_out s r) (St s) = St s := by
        rcases Nat.lt_or_ge (cntB (sv_out s r) (St s)) (St s) with q | q
        · exfalso
          have ex : ∃ j, j < St s ∧ sv_out s r j = false := by
            refine Classical.byContradiction fun z => ?_
            have al : ∀ j, j < St s → sv_out s r j = true := fun j hj => by
              cases hh : sv_out s r j
              · exact absurd ⟨j, hj, hh⟩ z
              · rfl
            have : ∀ k, k ≤ St s → cntB (sv_out s r) k = k := by
              intro k
              induction k with
              | zero => intro _; rfl
              | succ k ih => intro hk; rw [cntB_s, ih (by omega), if_pos (al k (by omega))]
            have := this (St s) (Nat.le_refl _)
            omega
          obtain ⟨j, hj, hf⟩ := ex
          exact h (sv_w_i s (sv_out s r) (sv_pos s r) (St s) j hj hf)
        · exact Nat.le_antisymm (cntB_le _ _) q
      rw [e, all]
      exact hr
theorem sv_size_e (s : Sv) : sv_size s (St s) = -1 := by
  have h1 := sv_out_c s (St s) (Nat.le_refl _)
  have h2 := cntB_all (sv_out s (St s)) (St s) (Nat.le_antisymm (cntB_le _ _) h1)
  obtain ⟨b1, b2⟩ := sv_w_b s (sv_out s (St s)) (sv_pos s (St s)) (St s)
  have : ¬ 0 ≤ sv_size s (St s) := fun q => by
    obtain ⟨w1, w2⟩ := b2 q
    rw [h2 _ w1] at w2
    cases w2
  unfold sv_size at this ⊢
  omega
theorem sv_fr_s (s : Sv) (b g r : Nat) : sv_fr s b (g + 1) r = if sv_size s r ≤ (b : Int) then r else sv_fr s b g (r + 1) := rfl
theorem sv_fr_b (s : Sv) (b : Nat) : ∀ g r, r ≤ sv_fr s b g r ∧ sv_fr s b g r ≤ r + g
  | 0, r => ⟨Nat.le_refl _, Nat.le_refl _⟩
  | g + 1, r => by
    rw [sv_fr_s]
    split
    · omega
    · have := sv_fr_b s b g (r + 1)
      omega
theorem sv_rnd_b (s : Sv) (b : Nat) : sv_rnd s b ≤ St s := by
  have := (sv_fr_b s b (St s) 0).2
  unfold sv_rnd
  omega
theorem sv_pos_r {s : Sv} (h : rg5 s) (o : Nat → Bool) : rng s 9092 (sv_fit s o) := (sv_stp_b s o h 10 (Nat.le_refl _)).mono (by decide)
theorem iI_le {a b : Int} (ha : -2147483648 ≤ a ∧ a < 2147483648) (hb : -2147483648 ≤ b ∧ b < 2147483648) : iI a ≤ iI b ↔ a ≤ b := by
  rw [Int32.le_iff_toInt_le]
  unfold iI
  rw [Int32.toInt_ofInt_of_le (by omega) (by omega), Int32.toInt_ofInt_of_le (by omega) (by omega)]
theorem iI_lt {a b : Int} (ha : -2147483648 ≤ a ∧ a < 2147483648) (hb : -2147483648 ≤ b ∧ b < 2147483648) : iI a < iI b ↔ a < b := by
  rw [Int32.lt_iff_toInt_lt]
  unfold iI
  rw [Int32.toInt_ofInt_of_le (by omega) (by omega), Int32.toInt_ofInt_of_le (by omega) (by omega)]
theorem iI_neg (a : Int) : -iI a = iI (-a) := (Int32.ofInt_neg a).symm
