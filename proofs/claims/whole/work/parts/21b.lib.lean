/-! PART 21b: helpers: sums of small numbers, rows set to 0, what a call leaves as it was -/
theorem li_mul {k i : Nat} : (OfNat.ofNat k : Int32) * nI i = nI ((OfNat.ofNat k : Nat) * i) := by
  show nI k * nI i = nI (k * i)
  exact pk_mul k i
theorem il_mul {k i : Nat} : nI i * (OfNat.ofNat k : Int32) = nI (i * (OfNat.ofNat k : Nat)) := by
  show nI i * nI k = nI (i * k)
  exact pk_mul i k
theorem il_add {k i : Nat} : nI i + (OfNat.ofNat k : Int32) = nI (i + (OfNat.ofNat k : Nat)) := by
  show nI i + nI k = nI (i + k)
  exact nI_add i k
theorem li_add {k i : Nat} : (OfNat.ofNat k : Int32) + nI i = nI ((OfNat.ofNat k : Nat) + i) := by
  show nI k + nI i = nI (k + i)
  exact nI_add k i
theorem il_sub {k i : Nat} (h : (OfNat.ofNat k : Nat) ≤ i) : nI i - (OfNat.ofNat k : Int32) = nI (i - (OfNat.ofNat k : Nat)) := by
  show nI i - nI k = nI (i - k)
  exact pk_sub h
theorem il_div {k i : Nat} (hi : i < 2 ^ 31) (h0 : 0 < (OfNat.ofNat k : Nat)) (hk : (OfNat.ofNat k : Nat) < 2 ^ 31) : nI i / (OfNat.ofNat k : Int32) = nI (i / (OfNat.ofNat k : Nat)) := by
  show nI i / nI k = nI (i / k)
  exact pk_div hi h0 hk
theorem i10 : ¬ (1 : Int32) = 0 := by decide
def zr (f : Nat → Int32) (a b : Nat) : Nat → Int32 := fun j => if a ≤ j ∧ j < b then 0 else f j
theorem zr_0 (f : Nat → Int32) (a : Nat) : zr f a a = f := by
  funext j
  unfold zr
  rw [if_neg (by omega)]
theorem zr_s (f : Nat → Int32) {a b : Nat} (h : a < b) : zr (upd f a 0) (a + 1) b = zr f a b := by
  funext j
  unfold zr upd
  by_cases h1 : a + 1 ≤ j ∧ j < b
  · rw [if_pos h1, if_pos (by omega)]
  · rw [if_neg h1]
    by_cases h2 : j = a
    · rw [if_pos h2, if_pos (by omega)]
    · rw [if_neg h2, if_neg (by omega)]
theorem zr_in (f : Nat → Int32) {a b j : Nat} (h : a ≤ j) (h2 : j < b) : zr f a b j = 0 := if_pos ⟨h, h2⟩
theorem zr_out (f : Nat → Int32) {a b j : Nat} (h : j < a ∨ b ≤ j) : zr f a b j = f j := if_neg (by omega)
theorem px_uR_c (M : Nat → Nat → Int32) (a b : Nat) (r t r' t' : Nat → Int32) : px_uR (px_uR (px_uR (px_uR M a r) b t) a r') b t' = px_uR (px_uR M a r') b t' := by
  funext x
  unfold px_uR
  cases Nat.beq x a <;> cases Nat.beq x b <;> rfl
/-- what a call leaves as it was: rows but those of S, fields of the model but those of K -/
def frm (S K : List Nat) (M M' : Nat → Nat → Int32) : Prop := (∀ a, a ≠ 67 → a ∉ S → M' a = M a) ∧ ∀ k, k ∉ K → M' 67 k = M 67 k
theorem frm.rf (S K : List Nat) (M : Nat → Nat → Int32) : frm S K M M := ⟨fun _ _ _ => rfl, fun _ _ => rfl⟩
theorem frm.tr {S K : List Nat} {M M' M'' : Nat → Nat → Int32} (h : frm S K M M') (h2 : frm S K M' M'') : frm S K M M'' := ⟨fun a h1 h3 => (h2.1 a h1 h3).trans (h.1 a h1 h3), fun k h3 => (h2.2 k h3).trans (h.2 k h3)⟩
theorem frm.u {S K : List Nat} {M M' : Nat → Nat → Int32} (h : frm S K M M') (a : Nat) (r : Nat → Int32) (ha : a ∈ S) (h67 : 67 ≠ a) : frm S K M (px_uR M' a r) := by
  refine ⟨fun b h1 h3 => ?_, fun k h3 => ?_⟩
  · rw [px_uR_n _ _ _ _ (fun q => h3 (by rw [q]; exact ha))]
    exact h.1 b h1 h3
  · rw [px_uR_n _ _ _ _ h67]
    exact h.2 k h3
theorem frm.k {S K : List Nat} {M M' : Nat → Nat → Int32} (h : frm S K M M') (k : Nat) (x : Int32) (hk : k ∈ K) : frm S K M (px_uR M' 67 (upd (M' 67) k x)) := by
  refine ⟨fun b h1 h3 => ?_, fun j h3 => ?_⟩
  · rw [px_uR_n _ _ _ _ h1]
    exact h.1 b h1 h3
  · rw [px_uR_s, pk_un (fun q => h3 (by rw [q]; exact hk))]
    exact h.2 j h3
theorem frm.mono {S K S' K' : List Nat} {M M' : Nat → Nat → Int32} (h : frm S K M M') (hS : ∀ a ∈ S, a ∈ S') (hK : ∀ a ∈ K, a ∈ K') : frm S' K' M M' := ⟨fun a h1 h3 => h.1 a h1 (fun q => h3 (hS a q)), fun k h3 => h.2 k (fun q => h3 (hK k q))⟩
