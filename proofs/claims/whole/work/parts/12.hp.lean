/-! PART 12: the fixed layout of the heap behind both constructors; going on at a place of a block -/
def px_uR (M : Nat → Nat → Int32) (a : Nat) (r : Nat → Int32) : Nat → Nat → Int32 := fun a' => cond (Nat.beq a' a) r (M a')
def px_uJ (J : Nat → Nat → Int64) (a : Nat) (r : Nat → Int64) : Nat → Nat → Int64 := fun a' => cond (Nat.beq a' a) r (J a')
def px_uQ (R : Nat → Nat → Option Nat) (a : Nat) (r : Nat → Option Nat) : Nat → Nat → Option Nat := fun a' => cond (Nat.beq a' a) r (R a')
def px_items : Nat → Option Nat := fun i => if i < 4 then some (63 + i) else none
def hp (M : Nat → Nat → Int32) (J : Nat → Nat → Int64) (R : Nat → Nat → Option Nat) (c e nL : Nat) (xs : Nat → Int32) (D : px_H) : px_H :=
  [.inl (0, nL, .inl xs),
   .inl (0, 6, .inl px_KA),
   .inl (0, 6, .inl px_WK),
   .inl (9, 4, .inl (px_st 0)),
   .inl (9, 4, .inl (px_st 1)),
   .inl (9, 5, .inl (px_st 2)),
   .inl (9, 1, .inl (px_st 3)),
   .inl (9, 1, .inl (px_st 4)),
   .inl (9, 3, .inl (px_st 5)),
   .inl (9, 3, .inl (px_st 6)),
   .inl (9, 2, .inl (px_st 7)),
   .inl (9, 3, .inl (px_st 8)),
   .inl (9, 3, .inl (px_st 9)),
   .inr (11, [.ref 14, .ref 28, .ref 32, .ref 37, .ref 49, .ref 51, .ref 58, .ref 59]),
   .inr (7, [.int (M 14 0), .int (M 14 1), .int (M 14 2), .ref 15, .ref 16, .ref 17, .ref 18, .ref 19, .ref 20, .int (M 14 9), .ref 21, .ref 22, .ref 23, .ref 24, .int (M 14 14), .ref 25, .ref 26, .ref 27]),
   .inl (0, 8, .inl (M 15)),
   .inl (0, 8, .inl (M 16)),
   .inl (1, 8, .inl (M 17)),
   .inl (0, 24, .inl (M 18)),
   .inl (0, 24, .inl (M 19)),
   .inl (0, 24, .inl (M 20)),
   .inl (0, 200, .inl (M 21)),
   .inl (0, 200, .inl (M 22)),
   .inl (0, 25, .inl (M 23)),
   .inl (0, 24, .inl (M 24)),
   .inl (0, 24, .inl (M 25)),
   .inl (0, 24, .inl (M 26)),
   .inl (0, 24, .inl (M 27)),
   .inr (10, [.int (M 28 0), .int (M 28 1), .ref 29, .ref 30, .ref 31]),
   .inl (3, 20, .inr (.inr (.inr (.inr (R 29))))),
   .inl (0, 6, .inl (M 30)),
   .inl (0, 6, .inl (M 31)),
   .inr (1, [.int (M 32 0), .int (M 32 1), .int (M 32 2), .ref 33, .ref 34, .ref 35, .ref 36]),
   .inl (0, 8, .inl (M 33)),
   .inl (0, 8, .inl (M 34)),
   .inl (0, 8, .inl (M 35)),
   .inl (4, 40, .inr (.inr (.inr (.inr (R 36))))),
   .inr (5, [.ref c, .ref e, .int (M 37 2), .ref 48, .int (M 37 4), .int (M 37 5), .int (M 37 6), .int (M 37 7)]),
   .inr (4, [.int (M 38 0), .int (M 38 1), .ref 39, .ref 40, .ref 41, .ref 42]),
   .inl (0, 6, .inl (M 39)),
   .inl (0, 160, .inl (M 40)),
   .inl (0, 160, .inl (M 41)),
   .inl (0, 160, .inl (M 42)),
   .inr (4, [.int (M 43 0), .int (M 43 1), .ref 44, .ref 45, .ref 46, .ref 47]),
   .inl (0, 6, .inl (M 44)),
   .inl (0, 160, .inl (M 45)),
   .inl (0, 160, .inl (M 46)),
   .inl (0, 160, .inl (M 47)),
   .inl (0, 160, .inl (M 48)),
   .inr (8, [.ref 50, .int (M 49 1), .int (M 49 2)]),
   .inl (0, 101, .inl (M 50)),
   .inr (3, [.int (M 51 0), .int (M 51 1), .ref 52, .ref 53, .ref 54, .ref 55, .ref 56, .int (M 51 7), .int (M 51 8), .ref 57]),
   .inl (0, 4, .inl (M 52)),
   .inl (0, 512, .inl (M 53)),
   .inl (0, 512, .inl (M 54)),
   .inl (2, 512, .inr (.inl (J 55))),
   .inl (2, 512, .inr (.inl (J 56))),
   .inl (0, 9, .inl (M 57)),
   .inr (9, [.int (M 58 0), .int (M 58 1)]),
   .inr (6, [.ref 60, .ref 61, .ref 62]),
   .inl (0, 4, .inl (M 60)),
   .inl (0, 4, .inl (M 61)),
   .inl (5, 4, .inr (.inr (.inr (.inr px_items)))),
   .inl (0, 40, .inl (M 63)),
   .inl (0, 40, .inl (M 64)),
   .inl (0, 40, .inl (M 65)),
   .inl (0, 40, .inl (M 66)),
   .inr (12, [.int (M 67 0), .ref 68, .ref 69, .ref 70, .ref 71, .ref 72, .int (M 67 6), .ref 73, .ref 74, .ref 75, .ref 76, .int (M 67 11), .int (M 67 12), .int (M 67 13), .ref 77, .ref 78, .ref 79, .ref 80, .ref 81, .ref 82, .ref 83, .ref 84, .int (M 67 22), .ref 85, .ref 86, .int (M 67 25), .int (M 67 26), .ref 87, .ref 88, .ref 89, .int (M 67 30), .ref 90, .ref 91, .ref 92, .ref 93, .ref 94, .ref 95, .int (M 67 37), .int (M 67 38), .ref 96, .ref 97, .ref 98, .int (M 67 42), .ref 99, .ref 100, .int (M 67 45), .ref 101, .int (M 67 47), .int (M 67 48), .int (M 67 49), .ref 102, .ref 103, .ref 104, .ref 105, .ref 106, .int (M 67 55), .int (M 67 56), .int (M 67 57), .int (M 67 58), .int (M 67 59), .int (M 67 60), .int (M 67 61), .int (M 67 62), .int (M 67 63), .ref 107, .int (M 67 65), .ref 108, .ref 109, .ref 110]),
   .inl (0, 8, .inl (M 68)),
   .inl (0, 8, .inl (M 69)),
   .inl (0, 8, .inl (M 70)),
   .inl (0, 8, .inl (M 71)),
   .inl (1, 8, .inl (M 72)),
   .inl (0, 24, .inl (M 73)),
   .inl (0, 24, .inl (M 74)),
   .inl (0, 24, .inl (M 75)),
   .inl (1, 24, .inl (M 76)),
   .inl (0, 20, .inl (M 77)),
   .inl (0, 20, .inl (M 78)),
   .inl (0, 20, .inl (M 79)),
   .inl (0, 20, .inl (M 80)),
   .inl (0, 20, .inl (M 81)),
   .inl (0, 160, .inl (M 82)),
   .inl (0, 20, .inl (M 83)),
   .inl (0, 20, .inl (M 84)),
   .inl (0, 6, .inl (M 85)),
   .inl (0, 6, .inl (M 86)),
   .inl (0, 8, .inl (M 87)),
   .inl (0, 8, .inl (M 88)),
   .inl (0, 8, .inl (M 89)),
   .inl (0, 40, .inl (M 90)),
   .inl (0, 40, .inl (M 91)),
   .inl (0, 40, .inl (M 92)),
   .inl (0, 40, .inl (M 93)),
   .inl (0, 40, .inl (M 94)),
   .inl (0, 160, .inl (M 95)),
   .inl (0, 320, .inl (M 96)),
   .inl (0, 320, .inl (M 97)),
   .inl (0, 16, .inl (M 98)),
   .inl (0, 9, .inl (M 99)),
   .inl (0, 9, .inl (M 100)),
   .inl (0, 4, .inl (M 101)),
   .inl (0, 4, .inl (M 102)),
   .inl (0, 4, .inl (M 103)),
   .inl (0, 160, .inl (M 104)),
   .inl (1, 160, .inl (M 105)),
   .inl (0, 39, .inl (M 106)),
   .inl (0, 180, .inl (M 107)),
   .inl (0, 9, .inl (M 108)),
   .inl (0, 9, .inl (M 109)),
   .inl (0, 4, .inl (M 110))] ++ D
noncomputable def px_p (l : px_B) (t n : Nat) (st : px_S) : Option px_R := match px_find t l with
  | none => none
  | some (_, is, fall) => px_blk (is.drop n) fall (px_run (px_mk l)) st
theorem hp_len (M : Nat → Nat → Int32) (J : Nat → Nat → Int64) (R : Nat → Nat → Option Nat) (c e nL : Nat) (xs : Nat → Int32) (D : px_H) : (hp M J R c e nL xs D).length = 111 + D.length := by
  unfold hp
  rw [List.length_append]
  rfl
theorem hp_app (M : Nat → Nat → Int32) (J : Nat → Nat → Int64) (R : Nat → Nat → Option Nat) (c e nL : Nat) (xs : Nat → Int32) (D E : px_H) : hp M J R c e nL xs D ++ E = hp M J R c e nL xs (D ++ E) := by
  unfold hp
  rw [List.append_assoc]
theorem hp_get (M : Nat → Nat → Int32) (J : Nat → Nat → Int64) (R : Nat → Nat → Option Nat) (c e nL : Nat) (xs : Nat → Int32) (D : px_H) (j : Nat) : (hp M J R c e nL xs D)[111 + j]? = D[j]? := by
  unfold hp
  rw [List.getElem?_append_right (by show 111 ≤ 111 + j; omega)]
  congr 1
  show 111 + j - 111 = j
  omega
theorem hp_set (M : Nat → Nat → Int32) (J : Nat → Nat → Int64) (R : Nat → Nat → Option Nat) (c e nL : Nat) (xs : Nat → Int32) (D : px_H) (j : Nat) (x : va_E) : (hp M J R c e nL xs D).set (111 + j) x = hp M J R c e nL xs (D.set j x) := by
  unfold hp
  rw [List.set_append_right _ _ (by show 111 ≤ 111 + j; omega)]
  congr 2
  show 111 + j - 111 = j
  omega
/-- a field, an item of a cell at any address; writing there; its class -/
def px_gf (G : px_H) (f ci k : Nat) : Option Value := match G[f]? with
  | some (.inr (c, fs)) => cond (Nat.beq c ci && Nat.ble 13 f) (fs[k]?) none
  | _ => none
def px_vb (o : Option Value) (K : Value → Option px_R) : Option px_R := match o with
  | none => none
  | some v => K v
def px_ga (G : px_H) (f t : Nat) (i : Int32) : Option Int32 := match G[f]? with
  | some (.inl (t', n, .inl r)) => cond (Nat.beq t' t && px_inb i n) (some (r i.toNatClampNeg)) none
  | _ => none
def px_ib (o : Option Int32) (K : Int32 → Option px_R) : Option px_R := match o with
  | none => none
  | some v => K v
def px_pf (G : px_H) (f ci k : Nat) (v : Value) : Option px_H := match G[f]? with
  | some (.inr (c, fs)) => cond (Nat.beq c ci && Nat.ble 13 f && Nat.blt k fs.length) (some (G.set f (.inr (c, fs.set k v)))) none
  | _ => none
def px_pa (G : px_H) (f : Nat) (i x : Int32) : Option px_H := match G[f]? with
  | some (.inl (t', n, .inl r)) => cond (Nat.beq t' 0 && Nat.ble 13 f && px_inb i n) (some (G.set f (.inl (t', n, .inl (upd r i.toNatClampNeg x))))) none
  | _ => none
def px_wb (o : Option px_H) (K : px_H → Option px_R) : Option px_R := match o with
  | none => none
  | some G => K G
def px_isc (G : px_H) (f ci : Nat) : Bool := match G[f]? with
  | some (.inr (c, _)) => Nat.beq c ci && Nat.ble 13 f
  | _ => false
theorem px_sgetf {ci k : Nat} {is : List px_I} {fall : Nat} {j : px_J} {f : Nat} {L : px_L} {S : List Value} {G : px_H} : px_blk (px_getf ci k :: is) fall j (L, .ref f :: S, G) = px_vb (px_gf G f ci k) (fun v => px_blk is fall j (L, v :: S, G)) := by
  unfold px_gf
  simp only [px_blk, px_getf, px_mem]
  cases G[f]? with
  | none => rfl
  | some x =>
    cases x with
    | inl q => rfl
    | inr q =>
      obtain ⟨c, fs⟩ := q
      dsimp only
      cases hb : (Nat.beq c ci && Nat.ble 13 f) <;> cases fs[k]? <;> rfl
theorem px_sputi {ci k : Nat} {is : List px_I} {fall : Nat} {j : px_J} {f : Nat} {x : Int32} {L : px_L} {S : List Value} {G : px_H} : px_blk (px_puti ci k :: is) fall j (L, .int x :: .ref f :: S, G) = px_wb (px_pf G f ci k (.int x)) (fun G1 => px_blk is fall j (L, S, G1)) := by
  unfold px_pf
  simp only [px_blk, px_puti, px_mem]
  cases G[f]? with
  | none => rfl
  | some q =>
    cases q with
    | inl q => rfl
    | inr q =>
      obtain ⟨c, fs⟩ := q
      dsimp only
      cases (Nat.beq c ci && Nat.ble 13 f && Nat.blt k fs.length) <;> rfl
theorem px_sputr {ci k : Nat} {is : List px_I} {fall : Nat} {j : px_J} {f x : Nat} {L : px_L} {S : List Value} {G : px_H} : px_blk (px_putr ci k :: is) fall j (L, .ref x :: .ref f :: S, G) = px_wb (px_pf G f ci k (.ref x)) (fun G1 => px_blk is fall j (L, S, G1)) := by
  unfold px_pf
  simp only [px_blk, px_putr, px_mem]
  cases G[f]? with
  | none => rfl
  | some q =>
    cases q with
    | inl q => rfl
    | inr q =>
      obtain ⟨c, fs⟩ := q
      dsimp only
      cases (Nat.beq c ci && Nat.ble 13 f && Nat.blt k fs.length) <;> rfl
theorem px_sputz {ci k : Nat} {is : List px_I} {fall : Nat} {j : px_J} {f : Nat} {x : Int32} {L : px_L} {S : List Value} {G : px_H} : px_blk (px_putz ci k :: is) fall j (L, .int x :: .ref f :: S, G) = cond (decide (x = 0) || decide (x = 1)) (px_wb (px_pf G f ci k (.int x)) (fun G1 => px_blk is fall j (L, S, G1))) none := by
  unfold px_pf
  simp only [px_blk, px_putz, px_mem]
  cases G[f]? with
  | none => cases (decide (x = 0) || decide (x = 1)) <;> rfl
  | some q =>
    cases q with
    | inl q => cases (decide (x = 0) || decide (x = 1)) <;> rfl
    | inr q =>
      obtain ⟨c, fs⟩ := q
      dsimp only
      cases (decide (x = 0) || decide (x = 1)) <;> cases (Nat.beq c ci && Nat.ble 13 f && Nat.blt k fs.length) <;> rfl
theorem px_siald {t : Nat} {is : List px_I} {fall : Nat} {j : px_J} {f : Nat} {i : Int32} {L : px_L} {S : List Value} {G : px_H} : px_blk (px_iald t :: is) fall j (L, .int i :: .ref f :: S, G) = px_ib (px_ga G f t i) (fun v => px_blk is fall j (L, .int v :: S, G)) := by
  unfold px_ga
  simp only [px_blk, px_iald, px_mem]
  cases G[f]? with
  | none => rfl
  | some q =>
    match q with
    | .inl (t', n, .inl r) =>
      dsimp only
      cases (Nat.beq t' t && px_inb i n) <;> rfl
    | .inl (t', n, .inr _) => rfl
    | .inr _ => rfl
theorem px_siast {is : List px_I} {fall : Nat} {j : px_J} {f : Nat} {i x : Int32} {L : px_L} {S : List Value} {G : px_H} : px_blk (px_iast 0 :: is) fall j (L, .int x :: .int i :: .ref f :: S, G) = px_wb (px_pa G f i x) (fun G1 => px_blk is fall j (L, S, G1)) := by
  unfold px_pa
  simp only [px_blk, px_iast, px_mem]
  cases G[f]? with
  | none => rfl
  | some q =>
    match q with
    | .inl (t', n, .inl r) =>
      dsimp only
      cases (Nat.beq t' 0 && Nat.ble 13 f && px_inb i n) <;> rfl
    | .inl (t', n, .inr _) => rfl
    | .inr _ => rfl
theorem px_scallV {X : px_X} {y n ci : Nat} {is : List px_I} {fall : Nat} {j : px_J} {L : px_L} {S : List Value} {G : px_H} {f : Nat} {As rest : List Value} (h1 : (S.take n).reverse = .ref f :: As) (h2 : S.drop n = rest) (h3 : Nat.beq (As.length + 1) n = true) (h4 : Nat.ble (px_cat rest) 8 = true) : px_blk (px_cV X y n ci :: is) fall j (L, S, G) = cond (px_isc G f ci) (px_bd (X y (.ref f :: As) G) (fun v G1 => px_blk is fall j (L, px_psh v rest, G1))) none := by
  unfold px_isc
  simp only [px_blk, px_cV, px_call, h1]
  cases G[f]? with
  | none => rfl
  | some q =>
    cases q with
    | inl q => rfl
    | inr q =>
      obtain ⟨c, fs⟩ := q
      dsimp only
      rw [h2, h3, h4]
      cases Nat.beq c ci <;> cases Nat.ble 13 f <;> rfl
