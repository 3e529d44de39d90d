/-! PART 02: the instructions of the pure machine -/
def px_inb (i : Int32) (n : Nat) : Bool := !(decide (i < 0)) && decide (i.toNatClampNeg < n)
def px_cat (S : List Value) : Nat := (S.map fun v => v.category).sum
def px_kill : px_L → Nat → px_L
  | L, 0 => L
  | L, n + 1 => match L[n]? with
    | some (some (.long _)) => L.set n none
    | some (some (.double _)) => L.set n none
    | _ => L
def px_set1 (L : px_L) (n : Nat) (v : Value) : px_L := (px_kill L n).set n (some v)
def px_set2 (L : px_L) (n : Nat) (v : Value) : px_L := ((px_kill L n).set n (some v)).set (n + 1) none
def px_push (v : Value) : px_I := px_mem fun st => some (true, (st.1, v :: st.2.1, st.2.2))
def px_iload (n : Nat) : px_I := px_mem fun st => match st.1[n]? with
  | some (some (.int x)) => some (true, (st.1, .int x :: st.2.1, st.2.2))
  | _ => none
def px_lload (n : Nat) : px_I := px_mem fun st => match st.1[n]? with
  | some (some (.long x)) => some (true, (st.1, .long x :: st.2.1, st.2.2))
  | _ => none
def px_aload (n : Nat) : px_I := px_mem fun st => match st.1[n]? with
  | some (some (.ref x)) => some (true, (st.1, .ref x :: st.2.1, st.2.2))
  | some (some .null) => some (true, (st.1, .null :: st.2.1, st.2.2))
  | _ => none
def px_istore (n : Nat) : px_I := px_mem fun st => match st.2.1 with
  | .int x :: S => some (Nat.blt n st.1.length, (px_set1 st.1 n (.int x), S, st.2.2))
  | _ => none
def px_lstore (n : Nat) : px_I := px_mem fun st => match st.2.1 with
  | .long x :: S => some (Nat.blt (n + 1) st.1.length, (px_set2 st.1 n (.long x), S, st.2.2))
  | _ => none
def px_astore (n : Nat) : px_I := px_mem fun st => match st.2.1 with
  | .ref x :: S => some (Nat.blt n st.1.length, (px_set1 st.1 n (.ref x), S, st.2.2))
  | .null :: S => some (Nat.blt n st.1.length, (px_set1 st.1 n .null, S, st.2.2))
  | _ => none
def px_iinc (n : Nat) (c : Int32) : px_I := px_mem fun st => match st.1[n]? with
  | some (some (.int x)) => some (true, (px_set1 st.1 n (.int (x + c)), st.2.1, st.2.2))
  | _ => none
def px_i2 (g : Int32 → Int32 → Int32) : px_I := px_mem fun st => match st.2.1 with
  | .int y :: .int x :: S => some (true, (st.1, .int (g x y) :: S, st.2.2))
  | _ => none
def px_i2d (g : Int32 → Int32 → Int32) : px_I := px_mem fun st => match st.2.1 with
  | .int y :: .int x :: S => some (!(decide (y = 0)), (st.1, .int (g x y) :: S, st.2.2))
  | _ => none
def px_i1 (g : Int32 → Int32) : px_I := px_mem fun st => match st.2.1 with
  | .int x :: S => some (true, (st.1, .int (g x) :: S, st.2.2))
  | _ => none
def px_l2 (g : Int64 → Int64 → Int64) : px_I := px_mem fun st => match st.2.1 with
  | .long y :: .long x :: S => some (true, (st.1, .long (g x y) :: S, st.2.2))
  | _ => none
def px_l2d (g : Int64 → Int64 → Int64) : px_I := px_mem fun st => match st.2.1 with
  | .long y :: .long x :: S => some (!(decide (y = 0)), (st.1, .long (g x y) :: S, st.2.2))
  | _ => none
def px_lsh (g : Int64 → Int32 → Int64) : px_I := px_mem fun st => match st.2.1 with
  | .int y :: .long x :: S => some (true, (st.1, .long (g x y) :: S, st.2.2))
  | _ => none
/-- Math's own methods: a call that leaves at most eight words on the stack -/
def px_i2m (g : Int32 → Int32 → Int32) : px_I := px_mem fun st => match st.2.1 with
  | .int y :: .int x :: S => some (Nat.ble (px_cat S) 8, (st.1, .int (g x y) :: S, st.2.2))
  | _ => none
def px_i1m (g : Int32 → Int32) : px_I := px_mem fun st => match st.2.1 with
  | .int x :: S => some (Nat.ble (px_cat S) 8, (st.1, .int (g x) :: S, st.2.2))
  | _ => none
def px_l2m (g : Int64 → Int64 → Int64) : px_I := px_mem fun st => match st.2.1 with
  | .long y :: .long x :: S => some (Nat.ble (px_cat S) 8, (st.1, .long (g x y) :: S, st.2.2))
  | _ => none
def px_lcmp : px_I := px_mem fun st => match st.2.1 with
  | .long y :: .long x :: S => some (true, (st.1, .int (lg_cmp x y) :: S, st.2.2))
  | _ => none
def px_i2l : px_I := px_mem fun st => match st.2.1 with
  | .int x :: S => some (true, (st.1, .long x.toInt64 :: S, st.2.2))
  | _ => none
def px_l2i : px_I := px_mem fun st => match st.2.1 with
  | .long x :: S => some (true, (st.1, .int x.toInt32 :: S, st.2.2))
  | _ => none
def px_dup : px_I := px_mem fun st => match st.2.1 with
  | v :: S => some (Nat.beq v.category 1, (st.1, v :: v :: S, st.2.2))
  | _ => none
def px_dup2 : px_I := px_mem fun st => match st.2.1 with
  | v :: w :: S => some (Nat.beq v.category 1 && Nat.beq w.category 1, (st.1, v :: w :: v :: w :: S, st.2.2))
  | _ => none
def px_if1 (c : Int32 → Bool) (t : Nat) : px_I := px_br (fun st => match st.2.1 with
  | .int x :: S => some (c x, (st.1, S, st.2.2))
  | _ => none) t
def px_if2 (c : Int32 → Int32 → Bool) (t : Nat) : px_I := px_br (fun st => match st.2.1 with
  | .int y :: .int x :: S => some (c x y, (st.1, S, st.2.2))
  | _ => none) t
def px_ifnull (t : Nat) : px_I := px_br (fun st => match st.2.1 with
  | .null :: S => some (true, (st.1, S, st.2.2))
  | .ref _ :: S => some (false, (st.1, S, st.2.2))
  | _ => none) t
def px_ifnonnull (t : Nat) : px_I := px_br (fun st => match st.2.1 with
  | .null :: S => some (false, (st.1, S, st.2.2))
  | .ref _ :: S => some (true, (st.1, S, st.2.2))
  | _ => none) t
def px_getf (ci k : Nat) : px_I := px_mem fun st => match st.2.1 with
  | .ref a :: S => match st.2.2[a]? with
    | some (.inr (c, fs)) => match fs[k]? with
      | some v => some (Nat.beq c ci && Nat.ble 13 a, (st.1, v :: S, st.2.2))
      | none => none
    | _ => none
  | _ => none
def px_puti (ci k : Nat) : px_I := px_mem fun st => match st.2.1 with
  | .int x :: .ref a :: S => match st.2.2[a]? with
    | some (.inr (c, fs)) => some (Nat.beq c ci && Nat.ble 13 a && Nat.blt k fs.length, (st.1, S, st.2.2.set a (.inr (c, fs.set k (.int x)))))
    | _ => none
  | _ => none
def px_putz (ci k : Nat) : px_I := px_mem fun st => match st.2.1 with
  | .int x :: .ref a :: S => match st.2.2[a]? with
    | some (.inr (c, fs)) => some ((Nat.beq c ci && Nat.ble 13 a && Nat.blt k fs.length) && (decide (x = 0) || decide (x = 1)), (st.1, S, st.2.2.set a (.inr (c, fs.set k (.int x)))))
    | _ => none
  | _ => none
def px_putr (ci k : Nat) : px_I := px_mem fun st => match st.2.1 with
  | .ref x :: .ref a :: S => match st.2.2[a]? with
    | some (.inr (c, fs)) => some (Nat.beq c ci && Nat.ble 13 a && Nat.blt k fs.length, (st.1, S, st.2.2.set a (.inr (c, fs.set k (.ref x)))))
    | _ => none
  | _ => none
/-- an int or boolean array, by its tag -/
def px_iald (t : Nat) : px_I := px_mem fun st => match st.2.1 with
  | .int i :: .ref a :: S => match st.2.2[a]? with
    | some (.inl (t', n, .inl f)) => some (Nat.beq t' t && px_inb i n, (st.1, .int (f i.toNatClampNeg) :: S, st.2.2))
    | _ => none
  | _ => none
def px_lald : px_I := px_mem fun st => match st.2.1 with
  | .int i :: .ref a :: S => match st.2.2[a]? with
    | some (.inl (t', n, .inr (.inl f))) => some ((Nat.beq t' 2 && Nat.ble 13 a) && px_inb i n, (st.1, .long (f i.toNatClampNeg) :: S, st.2.2))
    | _ => none
  | _ => none
def px_iast (t : Nat) : px_I := px_mem fun st => match st.2.1 with
  | .int x :: .int i :: .ref a :: S => match st.2.2[a]? with
    | some (.inl (t', n, .inl f)) => some ((Nat.beq t' t && Nat.ble 13 a) && px_inb i n, (st.1, S, st.2.2.set a (.inl (t', n, .inl (upd f i.toNatClampNeg x)))))
    | _ => none
  | _ => none
def px_zast : px_I := px_mem fun st => match st.2.1 with
  | .int x :: .int i :: .ref a :: S => match st.2.2[a]? with
    | some (.inl (t', n, .inl f)) => some (((Nat.beq t' 1 && Nat.ble 13 a) && px_inb i n) && (decide (x = 0) || decide (x = 1)), (st.1, S, st.2.2.set a (.inl (t', n, .inl (upd f i.toNatClampNeg x)))))
    | _ => none
  | _ => none
def px_last : px_I := px_mem fun st => match st.2.1 with
  | .long x :: .int i :: .ref a :: S => match st.2.2[a]? with
    | some (.inl (t', n, .inr (.inl f))) => some ((Nat.beq t' 2 && Nat.ble 13 a) && px_inb i n, (st.1, S, st.2.2.set a (.inl (t', n, .inr (.inl (vp_updL f i.toNatClampNeg x))))))
    | _ => none
  | _ => none
def px_alen : px_I := px_mem fun st => match st.2.1 with
  | .ref a :: S => match st.2.2[a]? with
    | some (.inl (t', n, _)) => some (Nat.ble t' 5, (st.1, .int (Int32.ofNat n) :: S, st.2.2))
    | _ => none
  | _ => none
def px_bo (o : Option Nat) (a : Option px_R) (k : Nat → Option px_R) : Option px_R := match o with
  | none => a
  | some b => k b
/-- a row of references: what lies there, or null -/
def px_alt (f : px_S → Option (Bool × Option Nat × px_S)) : px_I := ⟨fun k _ st => match f st with
  | none => none
  | some (b, o, st') => cond b (px_bo o (k (st'.1, .null :: st'.2.1, st'.2.2)) (fun a => k (st'.1, .ref a :: st'.2.1, st'.2.2))) none, by
  intro k j st r h
  dsimp only at h
  cases hf : f st with
  | none => rw [hf] at h; cases h
  | some q =>
    obtain ⟨b, o, st'⟩ := q
    rw [hf] at h
    cases b with
    | false => cases h
    | true =>
      cases o with
      | none => exact Or.inr (Or.inl ⟨_, h, fun k' j' h' => by dsimp only [cond_true]; rw [hf]; exact h'⟩)
      | some a => exact Or.inr (Or.inl ⟨_, h, fun k' j' h' => by dsimp only [cond_true]; rw [hf]; exact h'⟩)⟩
def px_aald (t : Nat) : px_I := px_alt fun st => match st.2.1 with
  | .int i :: .ref a :: S => match st.2.2[a]? with
    | some (.inl (t', n, .inr (.inr (.inr (.inr f))))) => some ((Nat.beq t' t && Nat.ble 13 a) && px_inb i n, f i.toNatClampNeg, (st.1, S, st.2.2))
    | _ => none
  | _ => none
def px_aast (t ci : Nat) : px_I := px_mem fun st => match st.2.1 with
  | .ref v :: .int i :: .ref a :: S => match st.2.2[a]? with
    | some (.inl (t', n, .inr (.inr (.inr (.inr f))))) => match st.2.2[v]? with
      | some (.inr (c, _)) => some (((Nat.beq t' t && Nat.ble 13 a) && (Nat.beq c ci && Nat.ble 13 v)) && px_inb i n, (st.1, S, st.2.2.set a (.inl (t', n, .inr (.inr (.inr (.inr (va_up f i.toNatClampNeg (some v)))))))))
      | _ => none
    | _ => none
  | _ => none
def px_aasn (t : Nat) : px_I := px_mem fun st => match st.2.1 with
  | .null :: .int i :: .ref a :: S => match st.2.2[a]? with
    | some (.inl (t', n, .inr (.inr (.inr (.inr f))))) => some ((Nat.beq t' t && Nat.ble 13 a) && px_inb i n, (st.1, S, st.2.2.set a (.inl (t', n, .inr (.inr (.inr (.inr (va_up f i.toNatClampNeg none))))))))
    | _ => none
  | _ => none
def px_new (ci : Nat) (fs : List Value) : px_I := px_mem fun st => some (true, (st.1, .ref st.2.2.length :: st.2.1, st.2.2 ++ [.inr (ci, fs)]))
def px_newi (t : Nat) : px_I := px_mem fun st => match st.2.1 with
  | .int n :: S => some (!(decide (n < 0)) && Nat.ble n.toNatClampNeg 100000, (st.1, .ref st.2.2.length :: S, st.2.2 ++ [.inl (t, n.toNatClampNeg, .inl (fun _ => 0))]))
  | _ => none
def px_newl : px_I := px_mem fun st => match st.2.1 with
  | .int n :: S => some (!(decide (n < 0)) && Nat.ble n.toNatClampNeg 100000, (st.1, .ref st.2.2.length :: S, st.2.2 ++ [.inl (2, n.toNatClampNeg, .inr (.inl (fun _ => 0)))]))
  | _ => none
def px_newr (t : Nat) : px_I := px_mem fun st => match st.2.1 with
  | .int n :: S => some (!(decide (n < 0)) && Nat.ble n.toNatClampNeg 100000, (st.1, .ref st.2.2.length :: S, st.2.2 ++ [.inl (t, n.toNatClampNeg, .inr (.inr (.inr (.inr (fun _ => none)))))]))
  | _ => none
/-- new int[n][k]: the outer row, then the inner ones -/
def px_mna : px_I := px_mem fun st => match st.2.1 with
  | .int k :: .int n :: S => some ((!(decide (n < 0)) && !(decide (k < 0))) && (Nat.ble n.toNatClampNeg 1000 && Nat.ble k.toNatClampNeg 1000), (st.1, .ref st.2.2.length :: S, st.2.2 ++ (.inl (5, n.toNatClampNeg, .inr (.inr (.inr (.inr (fun i => if i < n.toNatClampNeg then some (st.2.2.length + 1 + i) else none))))) :: List.replicate n.toNatClampNeg (.inl (0, k.toNatClampNeg, .inl (fun _ => 0))))))
  | _ => none
def px_reti : px_I := px_ret fun st => match st.2.1 with
  | [.int v] => some (some (.int v), st.2.2)
  | _ => none
def px_retz : px_I := px_ret fun st => match st.2.1 with
  | [.int v] => cond (decide (v = 0) || decide (v = 1)) (some (some (.int v), st.2.2)) none
  | _ => none
def px_retl : px_I := px_ret fun st => match st.2.1 with
  | [.long v] => some (some (.long v), st.2.2)
  | _ => none
def px_reta : px_I := px_ret fun st => match st.2.1 with
  | [.ref v] => some (some (.ref v), st.2.2)
  | [.null] => some (some .null, st.2.2)
  | _ => none
def px_retv : px_I := px_ret fun st => match st.2.1 with
  | [] => some (none, st.2.2)
  | _ => none
def px_cV (X : px_X) (y n ci : Nat) : px_I := px_call X y fun st => match (st.2.1.take n).reverse with
  | .ref a :: As => match st.2.2[a]? with
    | some (.inr (c, _)) => some (.ref a :: As, st.2.1.drop n, Nat.beq (As.length + 1) n && (Nat.beq c ci && Nat.ble 13 a && Nat.ble (px_cat (st.2.1.drop n)) 8))
    | _ => none
  | _ => none
def px_cS (X : px_X) (y n : Nat) : px_I := px_call X y fun st => some ((st.2.1.take n).reverse, st.2.1.drop n, Nat.beq (st.2.1.take n).reverse.length n && Nat.ble (px_cat (st.2.1.drop n)) 8)
def px_cI (X : px_X) (y n : Nat) : px_I := px_call X y fun st => match (st.2.1.take n).reverse with
  | .ref a :: As => some (.ref a :: As, st.2.1.drop n, Nat.beq (As.length + 1) n && Nat.ble (px_cat (st.2.1.drop n)) 8)
  | _ => none
def px_pop : px_I := px_mem fun st => match st.2.1 with
  | .ref _ :: S => some (Nat.ble (px_cat S) 8, (st.1, S, st.2.2))
  | _ => none
/-- a text's length and signs: texts lie among the first thirteen cells -/
def px_slen : px_I := px_mem fun st => match st.2.1 with
  | .ref a :: S => match st.2.2[a]? with
    | some (.inl (t', n, .inl _)) => some ((Nat.beq t' 9 && Nat.ble (px_cat S) 8) && Nat.blt a 13, (st.1, .int (Int32.ofNat n) :: S, st.2.2))
    | _ => none
  | _ => none
def px_schr : px_I := px_mem fun st => match st.2.1 with
  | .int i :: .ref a :: S => match st.2.2[a]? with
    | some (.inl (t', n, .inl f)) => some (((Nat.beq t' 9 && Nat.ble (px_cat S) 8) && Nat.blt a 13) && px_inb i n, (st.1, .int (f i.toNatClampNeg) :: S, st.2.2))
    | _ => none
  | _ => none
