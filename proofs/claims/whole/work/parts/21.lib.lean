/-! PART 21: helpers: comparisons of small numbers, rows, cells of finds and dives -/
theorem px_for {α : Type} (f : Nat → α) (a b : Nat) (h : a ≤ b) (hs : ∀ i, a ≤ i → i < b → f i = f (i + 1)) : f a = f b := by
  obtain ⟨n, rfl⟩ := Nat.le.dest h
  induction n with
  | zero => rfl
  | succ n ih => exact (ih (Nat.le_add_right _ _) (fun i h1 h2 => hs i h1 (by omega))).trans (hs (a + n) (by omega) (by omega))
theorem li_le {k i : Nat} (hk : (OfNat.ofNat k : Nat) < 2 ^ 31) (hi : i < 2 ^ 31) : (OfNat.ofNat k : Int32) ≤ nI i ↔ (OfNat.ofNat k : Nat) ≤ i := by
  show nI k ≤ nI i ↔ k ≤ i
  exact nI_leI hk hi
theorem li_lt {k i : Nat} (hk : (OfNat.ofNat k : Nat) < 2 ^ 31) (hi : i < 2 ^ 31) : (OfNat.ofNat k : Int32) < nI i ↔ (OfNat.ofNat k : Nat) < i := by
  show nI k < nI i ↔ k < i
  exact nI_ltI hk hi
theorem il_le {k i : Nat} (hk : (OfNat.ofNat k : Nat) < 2 ^ 31) (hi : i < 2 ^ 31) : nI i ≤ (OfNat.ofNat k : Int32) ↔ i ≤ (OfNat.ofNat k : Nat) := by
  show nI i ≤ nI k ↔ i ≤ k
  exact nI_leI hi hk
theorem il_lt {k i : Nat} (hk : (OfNat.ofNat k : Nat) < 2 ^ 31) (hi : i < 2 ^ 31) : nI i < (OfNat.ofNat k : Int32) ↔ i < (OfNat.ofNat k : Nat) := by
  show nI i < nI k ↔ i < k
  exact nI_ltI hi hk
theorem il_eq {k i : Nat} (hk : (OfNat.ofNat k : Nat) < 2 ^ 31) (hi : i < 2 ^ 31) : nI i = (OfNat.ofNat k : Int32) ↔ i = (OfNat.ofNat k : Nat) := by
  show nI i = nI k ↔ i = k
  exact nI_eq hi hk
theorem li_eq {k i : Nat} (hk : (OfNat.ofNat k : Nat) < 2 ^ 31) (hi : i < 2 ^ 31) : (OfNat.ofNat k : Int32) = nI i ↔ (OfNat.ofNat k : Nat) = i := by
  show nI k = nI i ↔ k = i
  exact nI_eq hk hi
theorem nI_neg {i k : Nat} (hi : i < 2 ^ 31) (hk : k < 2 ^ 31) (h0 : 0 < k) : ¬ nI i ≤ -nI k := by
  intro h
  have := Int32.le_iff_toInt_le.mp h
  rw [Int32.toInt_neg, nI_toInt hi, nI_toInt hk] at this
  rw [show ((-(k : Int)).bmod (2 ^ 32)) = -(k : Int) from Int.bmod_eq_of_le (by omega) (by omega)] at this
  omega
/-- a number of a row is not below 0 -/
theorem nI_n1 {i : Nat} (hi : i < 2 ^ 31) : ¬ nI i = -1 := fun h => nI_neg hi (k := 1) (by decide) (by decide) (by rw [h]; decide)
theorem nI_n1' {i : Nat} (hi : i < 2 ^ 31) : ¬ (-1 : Int32) = nI i := fun h => nI_n1 hi h.symm
theorem px_inbT {i n : Nat} (h : i < n) (hn : n < 2 ^ 31) : px_inb (nI i) n = true := by
  unfold px_inb
  rw [nI_clamp (by omega), decide_eq_false (nI_pos (by omega)), decide_eq_true h]
  rfl
theorem px_uR_s (M : Nat → Nat → Int32) (a : Nat) (r : Nat → Int32) : px_uR M a r a = r := by
  unfold px_uR
  rw [Nat.beq_refl]
  rfl
theorem px_uR_n (M : Nat → Nat → Int32) (a b : Nat) (r : Nat → Int32) (h : b ≠ a) : px_uR M a r b = M b := by
  unfold px_uR
  rw [show Nat.beq b a = false from by cases hb : Nat.beq b a with | false => rfl | true => exact absurd (Nat.eq_of_beq_eq_true hb) h]
  rfl
theorem px_uR_2 (M : Nat → Nat → Int32) (a : Nat) (r r' : Nat → Int32) : px_uR (px_uR M a r) a r' = px_uR M a r' := by
  funext b
  unfold px_uR
  cases Nat.beq b a <;> rfl
theorem px_uR_id (M : Nat → Nat → Int32) (a : Nat) : px_uR M a (M a) = M := by
  funext b
  unfold px_uR
  cases hb : Nat.beq b a with
  | false => rfl
  | true => rw [Nat.eq_of_beq_eq_true hb]; rfl
theorem upd_2 (f : Nat → Int32) (k : Nat) (x y : Int32) : upd (upd f k x) k y = upd f k y := by
  funext j
  unfold upd
  split <;> rfl
theorem upd_id (f : Nat → Int32) (k : Nat) : upd f k (f k) = f := by
  funext j
  unfold upd
  split
  · rename_i h; rw [h]
  · rfl
theorem px_vb_s (v : Value) (K : Value → Option px_R) : px_vb (some v) K = K v := rfl
theorem px_ib_s (v : Int32) (K : Int32 → Option px_R) : px_ib (some v) K = K v := rfl
theorem px_wb_s (G : px_H) (K : px_H → Option px_R) : px_wb (some G) K = K G := rfl
theorem px_bo_s (b : Nat) (a : Option px_R) (k : Nat → Option px_R) : px_bo (some b) a k = k b := rfl
theorem px_bo_n (a : Option px_R) (k : Nat → Option px_R) : px_bo none a k = a := rfl
/-- a find's cell and its holes, a dive's cell -/
def fdc (p : Nat) (F : Nat → Int32) : va_E := .inr (2, [.int (F 0), .int (F 1), .int (F 2), .int (F 3), .int (F 4), .ref (112 + p), .int (F 6), .int (F 7), .int (F 8)])
def fdAt (D : px_H) (p : Nat) (F H : Nat → Int32) : Prop := D[p]? = some (fdc p F) ∧ D[p + 1]? = some (.inl (0, 8, .inl H))
def dvAt (D : px_H) (q : Nat) (V : Nat → Int32) : Prop := D[q]? = some (.inr (0, [.int (V 0), .int (V 1), .int (V 2), .int (V 3), .int (V 4)]))
section S21
variable {M : Nat → Nat → Int32} {J : Nat → Nat → Int64} {R : Nat → Nat → Option Nat} {c e nL : Nat} {xs : Nat → Int32} {D : px_H}
theorem ble13 (p : Nat) : Nat.ble 13 (111 + p) = true := Nat.ble_eq.mpr (by omega)
theorem fd_gf {p : Nat} {F H : Nat → Int32} (h : fdAt D p F H) (k : Nat) : px_gf (hp M J R c e nL xs D) (111 + p) 2 k = ([.int (F 0), .int (F 1), .int (F 2), .int (F 3), .int (F 4), .ref (112 + p), .int (F 6), .int (F 7), .int (F 8)] : List Value)[k]? := by
  unfold px_gf
  rw [hp_get, h.1]
  unfold fdc
  dsimp only
  rw [ble13]
  rfl
theorem fd_isc {p : Nat} {F H : Nat → Int32} (h : fdAt D p F H) : px_isc (hp M J R c e nL xs D) (111 + p) 2 = true := by
  unfold px_isc
  rw [hp_get, h.1]
  unfold fdc
  dsimp only
  rw [ble13]
  rfl
theorem fd_ga {p : Nat} {F H : Nat → Int32} (h : fdAt D p F H) {i : Nat} (hi : i < 8) : px_ga (hp M J R c e nL xs D) (112 + p) 0 (nI i) = some (H i) := by
  unfold px_ga
  rw [show 112 + p = 111 + (p + 1) from by omega, hp_get, h.2]
  dsimp only
  rw [px_inbT hi (by decide), nI_clamp (by omega)]
  rfl
theorem fd_pf {p : Nat} {F H : Nat → Int32} (h : fdAt D p F H) (k : Nat) (v : Value) (hk : k < 9) : px_pf (hp M J R c e nL xs D) (111 + p) 2 k v = some (hp M J R c e nL xs (D.set p (.inr (2, ([.int (F 0), .int (F 1), .int (F 2), .int (F 3), .int (F 4), .ref (112 + p), .int (F 6), .int (F 7), .int (F 8)] : List Value).set k v)))) := by
  unfold px_pf
  rw [hp_get, h.1]
  unfold fdc
  dsimp only
  rw [ble13, hp_set]
  have : Nat.blt k ([.int (F 0), .int (F 1), .int (F 2), .int (F 3), .int (F 4), .ref (112 + p), .int (F 6), .int (F 7), .int (F 8)] : List Value).length = true := Nat.blt_eq.mpr hk
  rw [this]
  rfl
theorem fd_pa {p : Nat} {F H : Nat → Int32} (h : fdAt D p F H) {i : Nat} (hi : i < 8) (x : Int32) : px_pa (hp M J R c e nL xs D) (112 + p) (nI i) x = some (hp M J R c e nL xs (D.set (p + 1) (.inl (0, 8, .inl (upd H i x))))) := by
  unfold px_pa
  rw [show 112 + p = 111 + (p + 1) from by omega, hp_get, h.2]
  dsimp only
  rw [px_inbT hi (by decide), nI_clamp (by omega), ble13, hp_set]
  rfl
theorem dv_gf {p : Nat} {V : Nat → Int32} (h : dvAt D p V) (k : Nat) : px_gf (hp M J R c e nL xs D) (111 + p) 0 k = ([.int (V 0), .int (V 1), .int (V 2), .int (V 3), .int (V 4)] : List Value)[k]? := by
  unfold px_gf
  rw [hp_get, h]
  dsimp only
  rw [ble13]
  rfl
theorem dv_isc {p : Nat} {V : Nat → Int32} (h : dvAt D p V) : px_isc (hp M J R c e nL xs D) (111 + p) 0 = true := by
  unfold px_isc
  rw [hp_get, h]
  dsimp only
  rw [ble13]
  rfl
theorem fd_g0 {p : Nat} {F H : Nat → Int32} (h : fdAt D p F H) : px_gf (hp M J R c e nL xs D) (111 + p) 2 0 = some (.int (F 0)) := fd_gf h 0
theorem fd_g1 {p : Nat} {F H : Nat → Int32} (h : fdAt D p F H) : px_gf (hp M J R c e nL xs D) (111 + p) 2 1 = some (.int (F 1)) := fd_gf h 1
theorem fd_g2 {p : Nat} {F H : Nat → Int32} (h : fdAt D p F H) : px_gf (hp M J R c e nL xs D) (111 + p) 2 2 = some (.int (F 2)) := fd_gf h 2
theorem fd_g3 {p : Nat} {F H : Nat → Int32} (h : fdAt D p F H) : px_gf (hp M J R c e nL xs D) (111 + p) 2 3 = some (.int (F 3)) := fd_gf h 3
theorem fd_g4 {p : Nat} {F H : Nat → Int32} (h : fdAt D p F H) : px_gf (hp M J R c e nL xs D) (111 + p) 2 4 = some (.int (F 4)) := fd_gf h 4
theorem fd_g6 {p : Nat} {F H : Nat → Int32} (h : fdAt D p F H) : px_gf (hp M J R c e nL xs D) (111 + p) 2 6 = some (.int (F 6)) := fd_gf h 6
theorem fd_g7 {p : Nat} {F H : Nat → Int32} (h : fdAt D p F H) : px_gf (hp M J R c e nL xs D) (111 + p) 2 7 = some (.int (F 7)) := fd_gf h 7
theorem fd_g8 {p : Nat} {F H : Nat → Int32} (h : fdAt D p F H) : px_gf (hp M J R c e nL xs D) (111 + p) 2 8 = some (.int (F 8)) := fd_gf h 8
theorem fd_g5 {p : Nat} {F H : Nat → Int32} (h : fdAt D p F H) : px_gf (hp M J R c e nL xs D) (111 + p) 2 5 = some (.ref (112 + p)) := fd_gf h 5
theorem fd_p4 {p : Nat} {F H : Nat → Int32} (h : fdAt D p F H) (x : Int32) : px_pf (hp M J R c e nL xs D) (111 + p) 2 4 (.int x) = some (hp M J R c e nL xs (D.set p (fdc p (upd F 4 x)))) := fd_pf h 4 (.int x) (by decide)
theorem fd_p6 {p : Nat} {F H : Nat → Int32} (h : fdAt D p F H) (x : Int32) : px_pf (hp M J R c e nL xs D) (111 + p) 2 6 (.int x) = some (hp M J R c e nL xs (D.set p (fdc p (upd F 6 x)))) := fd_pf h 6 (.int x) (by decide)
theorem fd_p7 {p : Nat} {F H : Nat → Int32} (h : fdAt D p F H) (x : Int32) : px_pf (hp M J R c e nL xs D) (111 + p) 2 7 (.int x) = some (hp M J R c e nL xs (D.set p (fdc p (upd F 7 x)))) := fd_pf h 7 (.int x) (by decide)
theorem fd_p8 {p : Nat} {F H : Nat → Int32} (h : fdAt D p F H) (x : Int32) : px_pf (hp M J R c e nL xs D) (111 + p) 2 8 (.int x) = some (hp M J R c e nL xs (D.set p (fdc p (upd F 8 x)))) := fd_pf h 8 (.int x) (by decide)
theorem dv_g0 {p : Nat} {V : Nat → Int32} (h : dvAt D p V) : px_gf (hp M J R c e nL xs D) (111 + p) 0 0 = some (.int (V 0)) := dv_gf h 0
theorem dv_g1 {p : Nat} {V : Nat → Int32} (h : dvAt D p V) : px_gf (hp M J R c e nL xs D) (111 + p) 0 1 = some (.int (V 1)) := dv_gf h 1
theorem dv_g2 {p : Nat} {V : Nat → Int32} (h : dvAt D p V) : px_gf (hp M J R c e nL xs D) (111 + p) 0 2 = some (.int (V 2)) := dv_gf h 2
theorem dv_g3 {p : Nat} {V : Nat → Int32} (h : dvAt D p V) : px_gf (hp M J R c e nL xs D) (111 + p) 0 3 = some (.int (V 3)) := dv_gf h 3
theorem dv_g4 {p : Nat} {V : Nat → Int32} (h : dvAt D p V) : px_gf (hp M J R c e nL xs D) (111 + p) 0 4 = some (.int (V 4)) := dv_gf h 4
end S21
theorem fdAt_set {D : px_H} {p : Nat} {F H : Nat → Int32} (h : fdAt D p F H) (F' : Nat → Int32) : fdAt (D.set p (fdc p F')) p F' H := by
  have hp1 : p < D.length := (List.getElem?_eq_some_iff.mp h.1).1
  exact ⟨List.getElem?_set_self hp1, by rw [List.getElem?_set_ne (by omega)]; exact h.2⟩
theorem fdAt_setH {D : px_H} {p : Nat} {F H : Nat → Int32} (h : fdAt D p F H) (H' : Nat → Int32) : fdAt (D.set (p + 1) (.inl (0, 8, .inl H'))) p F H' := by
  have hp1 : p + 1 < D.length := (List.getElem?_eq_some_iff.mp h.2).1
  exact ⟨by rw [List.getElem?_set_ne (by omega)]; exact h.1, List.getElem?_set_self hp1⟩
theorem fdAt_ne {D : px_H} {p q : Nat} {F H : Nat → Int32} (h : fdAt D p F H) (x : va_E) (h1 : q ≠ p) (h2 : q ≠ p + 1) : fdAt (D.set q x) p F H := by
  exact ⟨by rw [List.getElem?_set_ne h1]; exact h.1, by rw [List.getElem?_set_ne h2]; exact h.2⟩
theorem dvAt_ne {D : px_H} {p q : Nat} {V : Nat → Int32} (h : dvAt D p V) (x : va_E) (h1 : q ≠ p) : dvAt (D.set q x) p V := by
  unfold dvAt
  rw [List.getElem?_set_ne h1]
  exact h
theorem fdAt_app {D E : px_H} {p : Nat} {F H : Nat → Int32} (h : fdAt D p F H) : fdAt (D ++ E) p F H := by
  have hp1 : p + 1 < D.length := (List.getElem?_eq_some_iff.mp h.2).1
  exact ⟨by rw [List.getElem?_append_left (by omega)]; exact h.1, by rw [List.getElem?_append_left hp1]; exact h.2⟩
theorem dvAt_app {D E : px_H} {p : Nat} {V : Nat → Int32} (h : dvAt D p V) : dvAt (D ++ E) p V := by
  have hp1 : p < D.length := (List.getElem?_eq_some_iff.mp h).1
  unfold dvAt
  rw [List.getElem?_append_left hp1]
  exact h
theorem dv_fd {D : px_H} {p q : Nat} {V F H : Nat → Int32} (h : dvAt D p V) (h' : fdAt D q F H) : q ≠ p ∧ q + 1 ≠ p := by
  constructor
  · rintro rfl
    have := h.symm.trans h'.1
    unfold fdc at this
    injection this with this
    injection this with this
    injection this with this
    cases this
  · rintro rfl
    have := h.symm.trans h'.2
    injection this with this
    cases this
theorem fd_fd {D : px_H} {p q : Nat} {F H F' H' : Nat → Int32} (h : fdAt D p F H) (h' : fdAt D q F' H') : q ≠ p + 1 := by
  rintro rfl
  have := h.2.symm.trans h'.1
  unfold fdc at this
  injection this with this
  cases this
