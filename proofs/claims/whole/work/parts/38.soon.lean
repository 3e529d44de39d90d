/-! PART 38: SOONEST -/
theorem cl_0 (of mt nr : Nat → Bool) : ∀ (g k : Nat) (r : Bool), cl of mt nr g k r = 0 ↔ r = false ∧ ∀ i, k ≤ i → i < k + g → of i = true → mt i = false ∧ nr i = false
  | 0, k, r => by
    cases r
    · exact ⟨fun _ => ⟨rfl, fun i h1 h2 => by omega⟩, fun _ => rfl⟩
    · exact ⟨fun h => (by cases h), fun h => (by cases h.1)⟩
  | g + 1, k, r => by
    rw [cl_s]
    have ih := fun r => cl_0 of mt nr g (k + 1) r
    cases ho : of k with
    | false =>
      refine (ih r).trans ⟨fun h => ⟨h.1, fun i h1 h2 h3 => ?_⟩, fun h => ⟨h.1, fun i h1 h2 h3 => h.2 i (by omega) (by omega) h3⟩⟩
      rcases Nat.lt_or_ge k i with h4 | h4
      · exact h.2 i h4 (by omega) h3
      · rw [show i = k from by omega, ho] at h3
        cases h3
    | true =>
      cases hm : mt k with
      | true =>
        refine ⟨fun h => (by cases h), fun h => ?_⟩
        have := (h.2 k (Nat.le_refl _) (by omega) ho).1
        rw [hm] at this
        cases this
      | false =>
        refine (ih (r || nr k)).trans ⟨fun h => ?_, fun h => ⟨?_, fun i h1 h2 h3 => h.2 i (by omega) (by omega) h3⟩⟩
        · obtain ⟨h1, h2⟩ := h
          cases r with
          | true => cases h1
          | false =>
            refine ⟨rfl, fun i h3 h4 h5 => ?_⟩
            rcases Nat.lt_or_ge k i with h6 | h6
            · exact h2 i h6 (by omega) h5
            · rw [show i = k from by omega]
              exact ⟨hm, h1⟩
        · rw [h.1, (h.2 k (Nat.le_refl _) (by omega) ho).2]
          rfl
/-- counting -/
def cn (p : Nat → Bool) : Nat → Nat
  | 0 => 0
  | n + 1 => cn p n + cond (p n) 1 0
theorem cn_le (p : Nat → Bool) : ∀ n, cn p n ≤ n
  | 0 => Nat.le_refl _
  | n + 1 => by
    have := cn_le p n
    unfold cn
    cases p n
    · show cn p n + 0 ≤ n + 1
      omega
    · show cn p n + 1 ≤ n + 1
      omega
theorem cn_m {p q : Nat → Bool} : ∀ n, (∀ k, k < n → p k = true → q k = true) → cn p n ≤ cn q n
  | 0, _ => Nat.le_refl _
  | n + 1, h => by
    have ih := cn_m n (fun k hk => h k (by omega))
    have hn := h n (by omega)
    unfold cn
    cases hp : p n with
    | false =>
      show cn p n + 0 ≤ _
      omega
    | true =>
      rw [hn hp]
      show cn p n + 1 ≤ cn q n + 1
      omega
theorem cn_s {p q : Nat → Bool} : ∀ n, (∀ k, k < n → p k = true → q k = true) → ∀ k, k < n → p k = false → q k = true → cn p n < cn q n
  | 0, _, k, hk, _, _ => by omega
  | n + 1, h, k, hk, h1, h2 => by
    have hn := h n (by omega)
    by_cases hkn : k = n
    · have ih := cn_m n (fun k hk => h k (by omega))
      unfold cn
      rw [← hkn, h1, h2, hkn]
      show cn p n + 0 < cn q n + 1
      omega
    · have ih := cn_s n (fun k hk => h k (by omega)) k (by omega) h1 h2
      unfold cn
      cases hp : p n with
      | false =>
        show cn p n + 0 < _
        omega
      | true =>
        rw [hn hp]
        show cn p n + 1 < cn q n + 1
        omega
section S38a
variable {S P L : Nat → Int32} {rf : Int32 → Int32} {k s l rho ow t m : Nat}
theorem mt_n (hs : S k = nI s) (hl : L k = nI l) (hs2 : s < 2 ^ 29) (hl2 : l < 2 ^ 29) (ht : t < 2 ^ 29) (hm : m < 2 ^ 29) : mtB S L (nI t) (nI m) k = true ↔ s ≤ t + m ∧ t ≤ s + l := by
  unfold mtB
  rw [hs, hl]
  simp (disch := omega) only [nI_add, nI_ltI]
  rw [Bool.not_eq_true', decide_eq_false_iff_not]
  omega
theorem nr_n1 (hs : S k = nI s) (hl : L k = nI l) (hs2 : s < 2 ^ 29) (hl2 : l < 2 ^ 29) (ht : t < 2 ^ 29) (hr : rf (P k) = nI rho) (hr2 : rho < 2 ^ 29) (own : Int32) (m' : Int32) (h : s + l < t) : nrB S P L rf (nI t) m' own k = true ↔ t - (s + l) < rho := by
  unfold nrB
  rw [hs, hl, hr]
  simp (disch := omega) only [nI_add, nI_ltI, if_pos h, pk_sub, nI_leI]
  rw [Bool.not_eq_true', decide_eq_false_iff_not]
  omega
theorem nr_n2 (hs : S k = nI s) (hl : L k = nI l) (hs2 : s < 2 ^ 29) (hl2 : l < 2 ^ 29) (ht : t < 2 ^ 29) (hm : m < 2 ^ 29) (ho : ow < 2 ^ 29) (h : ¬ s + l < t) (h2 : t + m < s) : nrB S P L rf (nI t) (nI m) (nI ow) k = true ↔ s - (t + m) < ow := by
  unfold nrB
  rw [hs, hl]
  simp (disch := omega) only [nI_add, nI_ltI, if_neg h, pk_sub, nI_leI]
  rw [Bool.not_eq_true', decide_eq_false_iff_not]
  omega
/-- a dive that hinders at t0 hinders until its end and its rest are over, and these come later -/
theorem hin_k (hs : S k = nI s) (hl : L k = nI l) (hs2 : s < 2 ^ 26) (hl2 : l < 2 ^ 26) (hm : m < 2 ^ 26) (hr : rf (P k) = nI rho) (hr2 : rho < 2 ^ 26) (ho : ow < 2 ^ 26) {t0 : Nat} (ht0 : t0 < 2 ^ 26) (h : mtB S L (nI t0) (nI m) k = true ∨ nrB S P L rf (nI t0) (nI m) (nI ow) k = true) : t0 < s + l + max 1 rho ∧ ∀ t, t0 ≤ t → t < s + l + max 1 rho → mtB S L (nI t) (nI m) k = true ∨ nrB S P L rf (nI t) (nI m) (nI ow) k = true := by
  have key : (s ≤ t0 + m ∧ t0 ≤ s + l) ∨ (s + l < t0 ∧ t0 - (s + l) < rho) ∨ (t0 + m < s ∧ ¬ s + l < t0 ∧ s - (t0 + m) < ow) := by
    by_cases a1 : s ≤ t0 + m ∧ t0 ≤ s + l
    · exact Or.inl a1
    · have h2 : nrB S P L rf (nI t0) (nI m) (nI ow) k = true := by
        rcases h with h | h
        · exact absurd ((mt_n hs hl (by omega) (by omega) (by omega) (by omega)).mp h) a1
        · exact h
      by_cases a2 : s + l < t0
      · exact Or.inr (Or.inl ⟨a2, (nr_n1 hs hl (by omega) (by omega) (by omega) hr (by omega) _ _ a2).mp h2⟩)
      · have a3 : t0 + m < s := by omega
        exact Or.inr (Or.inr ⟨a3, a2, (nr_n2 hs hl (by omega) (by omega) (by omega) (by omega) (by omega) a2 a3).mp h2⟩)
  refine ⟨by omega, fun t h1 h2 => ?_⟩
  by_cases b1 : s ≤ t + m ∧ t ≤ s + l
  · exact Or.inl ((mt_n hs hl (by omega) (by omega) (by omega) (by omega)).mpr b1)
  · by_cases b2 : s + l < t
    · exact Or.inr ((nr_n1 hs hl (by omega) (by omega) (by omega) hr (by omega) _ _ b2).mpr (by omega))
    · exact Or.inr ((nr_n2 hs hl (by omega) (by omega) (by omega) (by omega) (by omega) b2 (by omega)).mpr (by omega))
end S38a
theorem trm_0 {c : Nat} (hc : c ≤ 4) (w u m : Int32) : trm c w u m = 0 ↔ c = 0 ∧ ¬ 120 < w + m ∧ u + m ≤ 120 := by
  unfold trm
  by_cases h : c = 0
  · rw [if_pos h]
    by_cases h1 : 120 < w + m
    · rw [if_pos h1]
      exact ⟨fun q => absurd q (by decide), fun q => absurd h1 q.2.1⟩
    · rw [if_neg h1]
      by_cases h2 : u + m ≤ 120
      · rw [if_pos h2]
        exact ⟨fun _ => ⟨h, h1, h2⟩, fun _ => rfl⟩
      · rw [if_neg h2]
        exact ⟨fun q => absurd q (by decide), fun q => absurd q.2.2 h2⟩
  · rw [if_neg h]
    exact ⟨fun q => absurd q (nI_ne0 (by omega) (by omega)), fun q => absurd q.1 h⟩
theorem trm_5 {c : Nat} (hc : c ≤ 4) (w u m : Int32) (h : trm c w u m = 5) : c = 0 := by
  unfold trm at h
  by_cases h0 : c = 0
  · exact h0
  · rw [if_neg h0] at h
    have := (ze5 (by omega)).mp h
    omega
/-- what the search must answer from a moment on -/
def isAns (good : Nat → Prop) (L : Nat) (t0 : Nat) (r : Int32) : Prop := (∃ q, r = nI q ∧ t0 ≤ q ∧ q ≤ L ∧ good q ∧ ∀ t, t0 ≤ t → t < q → ¬ good t) ∨ (r = -1 ∧ ∀ t, t0 ≤ t → t ≤ L → ¬ good t)
theorem isAns_u {good : Nat → Prop} {L t0 : Nat} {r r' : Int32} (h : isAns good L t0 r) (h' : isAns good L t0 r') : r = r' := by
  rcases h with ⟨q, h1, h2, h3, h4, h5⟩ | ⟨h1, h2⟩
  · rcases h' with ⟨q', g1, g2, g3, g4, g5⟩ | ⟨g1, g2⟩
    · rw [h1, g1]
      rcases Nat.lt_trichotomy q q' with a | a | a
      · exact absurd h4 (g5 q h2 a)
      · rw [a]
      · exact absurd g4 (h5 q' g2 a)
    · exact absurd h4 (g2 q h2 h3)
  · rcases h' with ⟨q', g1, g2, g3, g4, g5⟩ | ⟨g1, g2⟩
    · exact absurd g4 (h2 q' g2 g3)
    · rw [h1, g1]
theorem isAns_m {good : Nat → Prop} {L t0 t1 : Nat} {r : Int32} (h0 : t0 ≤ t1) (hn : ∀ t, t0 ≤ t → t < t1 → ¬ good t) (h : isAns good L t1 r) : isAns good L t0 r := by
  rcases h with ⟨q, h1, h2, h3, h4, h5⟩ | ⟨h1, h2⟩
  · refine Or.inl ⟨q, h1, by omega, h3, h4, fun t a b => ?_⟩
    rcases Nat.lt_or_ge t t1 with c | c
    · exact hn t a c
    · exact h5 t c b
  · refine Or.inr ⟨h1, fun t a b => ?_⟩
    rcases Nat.lt_or_ge t t1 with c | c
    · exact hn t a c
    · exact h2 t c b
