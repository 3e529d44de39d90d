/-! PART 01: a pure machine: cells in a list, instructions as functions with continuations, blocks, runs, calls by depth -/
abbrev px_H : Type := List va_E
abbrev px_L : Type := List (Option Value)
abbrev px_S : Type := px_L × List Value × px_H
abbrev px_R : Type := Option Value × px_H
abbrev px_J : Type := Nat → px_S → Option px_R
abbrev px_X : Type := Nat → List Value → px_H → Option px_R
/-- an instruction's way to an end: it ends itself, or goes on in one of its continuations -/
def px_Lin (i : (px_S → Option px_R) → px_J → px_S → Option px_R) : Prop := ∀ (k : px_S → Option px_R) (j : px_J) (st : px_S) (r : px_R), i k j st = some r →
  (∀ k' j', i k' j' st = some r) ∨ (∃ st', k st' = some r ∧ ∀ k' j', k' st' = some r → i k' j' st = some r) ∨ (∃ t st', j t st' = some r ∧ ∀ k' j', j' t st' = some r → i k' j' st = some r)
abbrev px_I : Type := { i : (px_S → Option px_R) → px_J → px_S → Option px_R // px_Lin i }
def px_mem (f : px_S → Option (Bool × px_S)) : px_I := ⟨fun k _ st => match f st with
  | none => none
  | some (b, st') => cond b (k st') none, by
  intro k j st r h
  dsimp only at h
  cases hf : f st with
  | none => rw [hf] at h; cases h
  | some q =>
    obtain ⟨b, st'⟩ := q
    rw [hf] at h
    cases b with
    | false => cases h
    | true => exact Or.inr (Or.inl ⟨st', h, fun k' j' h' => by dsimp only; rw [hf]; exact h'⟩)⟩
def px_br (f : px_S → Option (Bool × px_S)) (t : Nat) : px_I := ⟨fun k j st => match f st with
  | none => none
  | some (b, st') => cond b (j t st') (k st'), by
  intro k j st r h
  dsimp only at h
  cases hf : f st with
  | none => rw [hf] at h; cases h
  | some q =>
    obtain ⟨b, st'⟩ := q
    rw [hf] at h
    cases b with
    | false => exact Or.inr (Or.inl ⟨st', h, fun k' j' h' => by dsimp only; rw [hf]; exact h'⟩)
    | true => exact Or.inr (Or.inr ⟨t, st', h, fun k' j' h' => by dsimp only; rw [hf]; exact h'⟩)⟩
def px_goto (t : Nat) : px_I := ⟨fun _ j st => j t st, fun _ _ st _ h => Or.inr (Or.inr ⟨t, st, h, fun _ _ h' => h'⟩)⟩
/-- a switch: the first pair with that number, else the last place -/
def px_swl (j : px_J) (x : Int32) (st : px_S) (d : Nat) : List (Int32 × Nat) → Option px_R
  | [] => j d st
  | (v, t) :: r => cond (decide (x = v)) (j t st) (px_swl j x st d r)
def px_swt (x : Int32) (d : Nat) : List (Int32 × Nat) → Nat
  | [] => d
  | (v, t) :: r => cond (decide (x = v)) t (px_swt x d r)
theorem px_swl_eq (j : px_J) (x : Int32) (st : px_S) (d : Nat) : ∀ l : List (Int32 × Nat), px_swl j x st d l = j (px_swt x d l) st
  | [] => rfl
  | (v, t) :: r => by
    unfold px_swl px_swt
    rw [px_swl_eq j x st d r]
    cases decide (x = v) <;> rfl
def px_sw (l : List (Int32 × Nat)) (d : Nat) : px_I := ⟨fun _ j st => match st with
  | (L, .int x :: S, G) => px_swl j x (L, S, G) d l
  | _ => none, by
  intro k j st r h
  obtain ⟨L, S, G⟩ := st
  match S, h with
  | .int x :: S, h =>
    dsimp only at h
    rw [px_swl_eq] at h
    exact Or.inr (Or.inr ⟨_, _, h, fun k' j' h' => by dsimp only; rw [px_swl_eq]; exact h'⟩)⟩
def px_ret (f : px_S → Option px_R) : px_I := ⟨fun _ _ st => f st, fun _ _ _ _ h => Or.inl fun _ _ => h⟩
/-- go on with an answer -/
def px_bd (o : Option px_R) (k : Option Value → px_H → Option px_R) : Option px_R := match o with
  | none => none
  | some (v, G') => k v G'
def px_psh (v : Option Value) (S : List Value) : List Value := match v with
  | none => S
  | some w => w :: S
/-- a call: what stands for its arguments, the rest, whether it may go -/
def px_call (X : px_X) (y : Nat) (f : px_S → Option (List Value × List Value × Bool)) : px_I := ⟨fun k _ st => match f st with
  | none => none
  | some (as, rest, b) => cond b (px_bd (X y as st.2.2) (fun v G' => k (st.1, px_psh v rest, G'))) none, by
  intro k j st r h
  dsimp only at h
  cases hf : f st with
  | none => rw [hf] at h; cases h
  | some q =>
    obtain ⟨as, rest, b⟩ := q
    rw [hf] at h
    cases b with
    | false => cases h
    | true =>
      dsimp only [cond_true] at h
      cases hX : X y as st.2.2 with
      | none => rw [hX] at h; cases h
      | some o =>
        obtain ⟨v, G'⟩ := o
        rw [hX] at h
        exact Or.inr (Or.inl ⟨_, h, fun k' j' h' => by dsimp only [cond_true]; rw [hf]; dsimp only [cond_true]; rw [hX]; exact h'⟩)⟩
/-- a block: instructions one behind the other, then the place behind it -/
def px_blk : List px_I → Nat → px_J → px_S → Option px_R
  | [], fall, j, st => j fall st
  | i :: is, fall, j, st => i.1 (px_blk is fall j) j st
abbrev px_M : Type := Nat → Option (List Bool × List px_I × Nat)
/-- at a place that is jumped to, locals that are dead are forgotten -/
def px_mask : List Bool → px_L → px_L
  | b :: bs, o :: L => cond b o none :: px_mask bs L
  | _, L => L
def px_go (M : px_M) (j : px_J) (t : Nat) (st : px_S) : Option px_R := match M t with
  | none => none
  | some (mq, is, fall) => px_blk is fall j (px_mask mq st.1, st.2)
def px_runN (M : px_M) : Nat → px_J
  | 0 => fun _ _ => none
  | n + 1 => fun t st => px_go M (px_runN M n) t st
noncomputable def px_run (M : px_M) : px_J := fun t st => @dite _ (∃ r n, px_runN M n t st = some r) (Classical.propDecidable _) (fun h => some h.choose) (fun _ => none)
theorem px_blk_lin : ∀ (is : List px_I) (fall : Nat) (j : px_J) (st : px_S) (r : px_R), px_blk is fall j st = some r → (∀ j', px_blk is fall j' st = some r) ∨ ∃ t st', j t st' = some r ∧ ∀ j', j' t st' = some r → px_blk is fall j' st = some r
  | [], fall, j, st, r, h => Or.inr ⟨fall, st, h, fun _ h' => h'⟩
  | i :: is, fall, j, st, r, h => by
    rcases i.2 _ _ _ _ h with h1 | ⟨st', h1, h2⟩ | ⟨t, st', h1, h2⟩
    · exact Or.inl fun j' => h1 _ _
    · rcases px_blk_lin is fall j st' r h1 with h3 | ⟨t, st2, h3, h4⟩
      · exact Or.inl fun j' => h2 _ _ (h3 j')
      · exact Or.inr ⟨t, st2, h3, fun j' h5 => h2 _ _ (h4 j' h5)⟩
    · exact Or.inr ⟨t, st', h1, fun j' h3 => h2 _ _ h3⟩
theorem px_go_lin (M : px_M) (j : px_J) (t : Nat) (st : px_S) (r : px_R) (h : px_go M j t st = some r) : (∀ j', px_go M j' t st = some r) ∨ ∃ t' st', j t' st' = some r ∧ ∀ j', j' t' st' = some r → px_go M j' t st = some r := by
  unfold px_go at h ⊢
  cases hM : M t with
  | none => rw [hM] at h; cases h
  | some q =>
    obtain ⟨mq, is, fall⟩ := q
    rw [hM] at h
    exact px_blk_lin _ _ _ _ _ h
theorem px_runN_succ (M : px_M) : ∀ (n t : Nat) (st : px_S) (r : px_R), px_runN M n t st = some r → px_runN M (n + 1) t st = some r
  | 0, _, _, _, h => by cases h
  | n + 1, t, st, r, h => by
    rcases px_go_lin M _ t st r h with h1 | ⟨t', st', h1, h2⟩
    · exact h1 (px_runN M (n + 1))
    · exact h2 _ (px_runN_succ M n t' st' r h1)
theorem px_runN_le (M : px_M) {n n' t : Nat} {st : px_S} {r : px_R} (hn : n ≤ n') (h : px_runN M n t st = some r) : px_runN M n' t st = some r := by
  induction hn with
  | refl => exact h
  | step _ ih => exact px_runN_succ M _ t st r ih
theorem px_run_iff (M : px_M) (t : Nat) (st : px_S) (r : px_R) : px_run M t st = some r ↔ ∃ n, px_runN M n t st = some r := by
  unfold px_run
  by_cases h : ∃ r n, px_runN M n t st = some r
  · rw [dif_pos h]
    have hc := h.choose_spec
    constructor
    · intro e
      rw [← Option.some.inj e]
      exact hc
    · rintro ⟨n, hn⟩
      obtain ⟨n', hn'⟩ := hc
      have a := px_runN_le M (Nat.le_max_left n n') hn
      have b := px_runN_le M (Nat.le_max_right n n') hn'
      rw [b] at a
      exact a
  · rw [dif_neg h]
    constructor
    · intro e; cases e
    · rintro ⟨n, hn⟩
      exact absurd ⟨r, n, hn⟩ h
/-- a run is its first block, then a run -/
theorem px_run_eq (M : px_M) (t : Nat) (st : px_S) : px_run M t st = px_go M (px_run M) t st := by
  apply Option.ext
  intro r
  constructor
  · intro h
    obtain ⟨n, hn⟩ := (px_run_iff M t st r).mp h
    cases n with
    | zero => cases hn
    | succ n =>
      rcases px_go_lin M _ t st r hn with h1 | ⟨t', st', h1, h2⟩
      · exact h1 _
      · exact h2 _ ((px_run_iff M t' st' r).mpr ⟨n, h1⟩)
  · intro h
    rcases px_go_lin M _ t st r h with h1 | ⟨t', st', h1, h2⟩
    · exact (px_run_iff M t st r).mpr ⟨1, h1 (px_runN M 0)⟩
    · obtain ⟨n, hn⟩ := (px_run_iff M t' st' r).mp h1
      exact (px_run_iff M t st r).mpr ⟨n + 1, h2 _ hn⟩
def px_sl : List Value → px_L
  | [] => []
  | .long x :: vs => some (.long x) :: none :: px_sl vs
  | .double x :: vs => some (.double x) :: none :: px_sl vs
  | v :: vs => some v :: px_sl vs
def px_pad : Nat → px_L → px_L
  | 0, L => L
  | n + 1, o :: L => o :: px_pad n L
  | n + 1, [] => none :: px_pad n []
abbrev px_T : Type := List (Nat × (px_X → px_M))
noncomputable def px_ex (T : px_T) : Nat → px_X
  | 0 => fun _ _ _ => none
  | d + 1 => fun y as G => match T[y]? with
    | none => none
    | some (nL, M) => cond (Nat.ble (px_sl as).length nL) (px_run (M (px_ex T d)) 0 (px_pad nL (px_sl as), [], G)) none
