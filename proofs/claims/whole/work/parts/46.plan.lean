/-! PART 46: PLANS: what a set can be worth with some of the gangs -/
def pl5 (t : Nat) : Int := ((5 ^ (8 - t) : Nat) : Int)
/-- what a task brings with gang x (4: none) -/
def ct (w : Nat → Int) (t x : Nat) : Int := if x = 4 then -(4 * pl5 t) else w t * 1953125 - (x : Int) * pl5 t
def mer (w : Nat → Int) (a : Nat → Nat) (s : Nat) : Int := bs (fun t => ct w t (a t)) s 9
def ldg (mn : Nat → Int) (a : Nat → Nat) (h s : Nat) : Int := bs (fun t => if a t = h then mn t else 0) s 9
def fea (mn cap : Nat → Int) (ng g s : Nat) (a : Nat → Nat) : Prop := (∀ t, t < 9 → s.testBit t = true → (g ≤ a t ∧ a t < ng) ∨ a t = 4) ∧ ∀ h, g ≤ h → h < ng → ldg mn a h s ≤ cap h
def isV (w mn cap : Nat → Int) (ng g s : Nat) (v : Int) : Prop := (∀ a, fea mn cap ng g s a → mer w a s ≤ v) ∧ ∃ a, fea mn cap ng g s a ∧ mer w a s = v
theorem isV_u {w mn cap : Nat → Int} {ng g s : Nat} {v v' : Int} (h : isV w mn cap ng g s v) (h' : isV w mn cap ng g s v') : v = v' := by
  obtain ⟨h1, a, h2, h3⟩ := h
  obtain ⟨g1, b, g2, g3⟩ := h'
  have := h1 b g2
  have := g1 a h2
  omega
/-- with no gang left -/
theorem isV_0 (w mn cap : Nat → Int) (ng s : Nat) (hng : ng ≤ 4) : isV w mn cap ng ng s (-4 * bs pl5 s 9) := by
  have key : ∀ a : Nat → Nat, (∀ t, t < 9 → s.testBit t = true → a t = 4) → mer w a s = -4 * bs pl5 s 9 := by
    intro a ha
    unfold mer
    rw [← bs_mul]
    refine bs_c 9 (fun t ht => ⟨rfl, fun hb => ?_⟩)
    unfold ct
    rw [ha t ht hb, if_pos rfl]
    omega
  refine ⟨fun a ha => ?_, fun _ => 4, ⟨fun _ _ _ => Or.inr rfl, fun h h1 h2 => by omega⟩, key _ (fun _ _ _ => rfl)⟩
  rw [key a (fun t ht hb => by
    rcases ha.1 t ht hb with h | h
    · omega
    · exact h)]
  exact Int.le_refl _
/-- one gang more -/
theorem isV_s {w mn cap : Nat → Int} {ng g s : Nat} {u : Nat → Int} {v : Int} (hs : s < 512) (hg : g < ng) (hng : ng ≤ 4) (hu : ∀ r, r < 512 → (∀ t, r.testBit t = true → s.testBit t = true) → isV w mn cap ng (g + 1) r (u r))
    (h1 : ∀ q, q < 512 → (∀ t, q.testBit t = true → s.testBit t = true) → bs mn q 9 ≤ cap g → 1953125 * bs w q 9 - (g : Int) * bs pl5 q 9 + u (s - q) ≤ v)
    (h2 : ∃ q, q < 512 ∧ (∀ t, q.testBit t = true → s.testBit t = true) ∧ bs mn q 9 ≤ cap g ∧ v = 1953125 * bs w q 9 - (g : Int) * bs pl5 q 9 + u (s - q)) : isV w mn cap ng g s v := by
  have mq : ∀ (a : Nat → Nat) (q : Nat), (∀ t, t < 9 → q.testBit t = true → a t = g) → mer w a q = 1953125 * bs w q 9 - (g : Int) * bs pl5 q 9 := by
    intro a q ha
    unfold mer
    rw [← bs_mul, ← bs_mul, ← bs_sub]
    refine bs_c 9 (fun t ht => ⟨rfl, fun hb => ?_⟩)
    unfold ct
    rw [ha t ht hb, if_neg (by omega), Int.mul_comm]
  have msp : ∀ (f : Nat → Int) (q : Nat), q < 512 → (∀ t, q.testBit t = true → s.testBit t = true) → bs f s 9 = bs f q 9 + bs f (s - q) 9 := by
    intro f q hq hsub
    refine bs_split 9 (fun t _ => ?_)
    rw [(sub_bit hs hq hsub).2 t]
    have := hsub t
    cases hs : s.testBit t <;> cases hq : q.testBit t
    · exact ⟨rfl, rfl⟩
    · rw [hs, hq] at this; cases this rfl
    · exact ⟨rfl, rfl⟩
    · exact ⟨rfl, rfl⟩
  have rsub : ∀ q, q < 512 → (∀ t, q.testBit t = true → s.testBit t = true) → ∀ t, (s - q).testBit t = true → s.testBit t = true := by
    intro q hq hsub t ht
    rw [(sub_bit hs hq hsub).2 t] at ht
    cases hst : s.testBit t with
    | true => rfl
    | false => rw [hst] at ht; cases ht
  constructor
  · intro a ha
    have hq := fm_lt (fun t => s.testBit t && decide (a t = g)) 9
    have hqb : ∀ t, t < 9 → (fm (fun t => s.testBit t && decide (a t = g)) 9).testBit t = (s.testBit t && decide (a t = g)) := by
      intro t ht
      rw [fm_bit, decide_eq_true ht]
      rfl
    have hsub : ∀ t, (fm (fun t => s.testBit t && decide (a t = g)) 9).testBit t = true → s.testBit t = true := by
      intro t ht
      rw [fm_bit] at ht
      cases hst : s.testBit t with
      | true => rfl
      | false =>
        rw [hst] at ht
        simp at ht
    generalize fm (fun t => s.testBit t && decide (a t = g)) 9 = q at hq hqb hsub
    have hrb := (sub_bit hs hq hsub).2
    have hload : bs mn q 9 = ldg mn a g s := by
      have z0 : bs (fun t => if a t = g then mn t else 0) (s - q) 9 = 0 := by
        refine Eq.trans (bs_c (f' := fun _ => 0) (s' := (s - q)) 9 (fun t ht => ⟨rfl, fun hb => ?_⟩)) (bs_0 _ 9)
        rw [hrb t, hqb t ht] at hb
        rw [if_neg]
        intro he
        rw [decide_eq_true he] at hb
        cases hst : s.testBit t with
        | false => rw [hst] at hb; cases hb
        | true => rw [hst] at hb; cases hb
      have z1 : ldg mn a g s = bs (fun t => if a t = g then mn t else 0) q 9 + bs (fun t => if a t = g then mn t else 0) (s - q) 9 := msp _ q hq hsub
      rw [z1, z0, Int.add_zero]
      refine bs_c 9 (fun t ht => ⟨rfl, fun hb => ?_⟩)
      rw [hqb t ht] at hb
      rw [if_pos]
      cases hst : s.testBit t with
      | false => rw [hst] at hb; cases hb
      | true =>
        rw [hst] at hb
        exact of_decide_eq_true hb
    have hcap : bs mn q 9 ≤ cap g := by
      rw [hload]
      exact ha.2 g (Nat.le_refl _) hg
    have hqa : ∀ t, t < 9 → q.testBit t = true → a t = g := by
      intro t ht hb
      rw [hqb t ht] at hb
      cases hst : s.testBit t with
      | false => rw [hst] at hb; cases hb
      | true =>
        rw [hst] at hb
        exact of_decide_eq_true hb
    have hfe : fea mn cap ng (g + 1) (s - q) a := by
      refine ⟨fun t ht hb => ?_, fun h h3 h4 => ?_⟩
      · rw [hrb t, hqb t ht] at hb
        cases hst : s.testBit t with
        | false => rw [hst] at hb; cases hb
        | true =>
          rw [hst] at hb
          have hne : ¬ a t = g := by
            intro he
            rw [decide_eq_true he] at hb
            cases hb
          rcases ha.1 t ht hst with h | h
          · exact Or.inl ⟨by omega, h.2⟩
          · exact Or.inr h
      · have := ha.2 h (by omega) h4
        have z0 : bs (fun t => if a t = h then mn t else 0) q 9 = 0 := by
          refine Eq.trans (bs_c (f' := fun _ => 0) (s' := q) 9 (fun t ht => ⟨rfl, fun hb => ?_⟩)) (bs_0 _ 9)
          rw [hqa t ht hb, if_neg (by omega)]
        have z1 : ldg mn a h s = bs (fun t => if a t = h then mn t else 0) q 9 + bs (fun t => if a t = h then mn t else 0) (s - q) 9 := msp _ q hq hsub
        have z2 : ldg mn a h (s - q) = bs (fun t => if a t = h then mn t else 0) (s - q) 9 := rfl
        rw [z2]
        rw [z1, z0] at this
        omega
    have hlt : s - q < 512 := by omega
    have := (hu (s - q) hlt (rsub q hq hsub)).1 a hfe
    have h3 := h1 q hq hsub hcap
    have h4 : mer w a s = mer w a q + mer w a (s - q) := msp _ q hq hsub
    rw [h4, mq a q hqa]
    omega
  · obtain ⟨q, hq, hsub, hcap, hv⟩ := h2
    have hlt : s - q < 512 := by omega
    have hrb := (sub_bit hs hq hsub).2
    obtain ⟨_, b, hb1, hb2⟩ := hu (s - q) hlt (rsub q hq hsub)
    have e1 : mer w (fun t => if q.testBit t then g else b t) q = 1953125 * bs w q 9 - (g : Int) * bs pl5 q 9 := mq _ q (fun t _ hb => by rw [if_pos hb])
    have e2 : ∀ (F : Nat → Nat → Int), bs (fun t => F t (if q.testBit t then g else b t)) (s - q) 9 = bs (fun t => F t (b t)) (s - q) 9 := by
      intro F
      refine bs_c 9 (fun t _ => ⟨rfl, fun hb => ?_⟩)
      rw [hrb t] at hb
      rw [if_neg]
      intro hqt
      rw [hqt] at hb
      cases hst : s.testBit t with
      | false => rw [hst] at hb; cases hb
      | true => rw [hst] at hb; cases hb
    refine ⟨fun t => if q.testBit t then g else b t, ⟨fun t ht hst => ?_, fun h h3 h4 => ?_⟩, ?_⟩
    · dsimp only
      by_cases hqt : q.testBit t = true
      · rw [if_pos hqt]
        exact Or.inl ⟨Nat.le_refl _, hg⟩
      · rw [if_neg hqt]
        rcases hb1.1 t ht (by
          rw [hrb t, hst]
          cases hx : q.testBit t with
          | true => exact absurd hx hqt
          | false => rfl) with h | h
        · exact Or.inl ⟨by omega, h.2⟩
        · exact Or.inr h
    · have z9 : ldg mn (fun t => if q.testBit t then g else b t) h s = bs (fun t => if (if q.testBit t then g else b t) = h then mn t else 0) q 9 + bs (fun t => if (if q.testBit t then g else b t) = h then mn t else 0) (s - q) 9 := msp _ q hq hsub
      have e3 := e2 (fun t x => if x = h then mn t else 0)
      rw [z9, e3]
      by_cases hgh : h = g
      · subst hgh
        have z1 : bs (fun t => if (if q.testBit t then h else b t) = h then mn t else 0) q 9 = bs mn q 9 := by
          refine bs_c 9 (fun t _ => ⟨rfl, fun hb => ?_⟩)
          rw [if_pos hb, if_pos rfl]
        have z2 : bs (fun t => if b t = h then mn t else 0) (s - q) 9 = 0 := by
          refine Eq.trans (bs_c (f' := fun _ => 0) (s' := (s - q)) 9 (fun t ht => ⟨rfl, fun hb => ?_⟩)) (bs_0 _ 9)
          rw [if_neg]
          intro he
          rcases hb1.1 t ht hb with z | z <;> omega
        rw [z1, z2]
        omega
      · have z1 : bs (fun t => if (if q.testBit t then g else b t) = h then mn t else 0) q 9 = 0 := by
          refine Eq.trans (bs_c (f' := fun _ => 0) (s' := q) 9 (fun t _ => ⟨rfl, fun hb => ?_⟩)) (bs_0 _ 9)
          rw [if_pos hb, if_neg (by omega)]
        have : bs (fun t => if b t = h then mn t else 0) (s - q) 9 ≤ cap h := hb1.2 h (by omega) h4
        rw [z1]
        omega
    · have h4 : mer w (fun t => if q.testBit t then g else b t) s = mer w (fun t => if q.testBit t then g else b t) q + mer w (fun t => if q.testBit t then g else b t) (s - q) := msp _ q hq hsub
      have h5 : mer w (fun t => if q.testBit t then g else b t) (s - q) = mer w b (s - q) := e2 (fun t x => ct w t x)
      rw [h4, h5, e1, hb2, hv]
