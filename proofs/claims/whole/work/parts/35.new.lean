/-! PART 35: new finds and dives -/
def px_aw (G : px_H) (a v t ci : Nat) (i : Int32) : Option px_H := match G[a]? with
  | some (.inl (t', n, .inr (.inr (.inr (.inr f))))) => match G[v]? with
    | some (.inr (c, _)) => cond (((Nat.beq t' t && Nat.ble 13 a) && (Nat.beq c ci && Nat.ble 13 v)) && px_inb i n) (some (G.set a (.inl (t', n, .inr (.inr (.inr (.inr (va_up f i.toNatClampNeg (some v))))))))) none
    | _ => none
  | _ => none
theorem px_saast {t ci : Nat} {is : List px_I} {fall : Nat} {j : px_J} {v a : Nat} {i : Int32} {L : px_L} {S : List Value} {G : px_H} : px_blk (px_aast t ci :: is) fall j (L, .ref v :: .int i :: .ref a :: S, G) = px_wb (px_aw G a v t ci i) (fun G1 => px_blk is fall j (L, S, G1)) := by
  unfold px_aw
  simp only [px_blk, px_aast, px_mem]
  cases G[a]? with
  | none => rfl
  | some q =>
    match q with
    | .inl (t', n, .inl r) => rfl
    | .inl (t', n, .inr (.inl r)) => rfl
    | .inl (t', n, .inr (.inr (.inl r))) => rfl
    | .inl (t', n, .inr (.inr (.inr (.inl r)))) => rfl
    | .inl (t', n, .inr (.inr (.inr (.inr f)))) =>
      dsimp only
      cases G[v]? with
      | none => rfl
      | some z =>
        cases z with
        | inl z => rfl
        | inr z =>
          obtain ⟨c, fs⟩ := z
          dsimp only
          cases (((Nat.beq t' t && Nat.ble 13 a) && (Nat.beq c ci && Nat.ble 13 v)) && px_inb i n) <;> rfl
    | .inr _ => rfl
theorem set_mid (D0 : px_H) (x y : va_E) (t : px_H) : (D0 ++ x :: t).set D0.length y = D0 ++ y :: t := by
  induction D0 with
  | nil => rfl
  | cons a l ih =>
    show a :: ((l ++ x :: t).set l.length y) = a :: (l ++ y :: t)
    rw [ih]
theorem get_mid (D0 : px_H) (x : va_E) (t : px_H) : (D0 ++ x :: t)[D0.length]? = some x := by
  rw [List.getElem?_append_right (Nat.le_refl _), Nat.sub_self]
  rfl
section S35
variable {M : Nat → Nat → Int32} {J : Nat → Nat → Int64} {R : Nat → Nat → Option Nat} {c e nL : Nat} {xs : Nat → Int32}
theorem nw_pf (D0 t : px_H) (ci k : Nat) (fs : List Value) (v : Value) (hk : Nat.blt k fs.length = true) : px_pf (hp M J R c e nL xs (D0 ++ .inr (ci, fs) :: t)) (111 + D0.length) ci k v = some (hp M J R c e nL xs (D0 ++ .inr (ci, fs.set k v) :: t)) := by
  unfold px_pf
  rw [hp_get, get_mid]
  dsimp only
  rw [ble13, hp_set, set_mid, hk, show Nat.beq ci ci = true from Nat.beq_refl ci]
  rfl
end S35
theorem fX0_init_0 (X : px_X) (G : px_H) (f : Nat) (a b s p m : Int32) : px_run (px_mk (kX0_init X)) 0 ([some (.ref f), some (.int a), some (.int b), some (.int s), some (.int p), some (.int m)], [], G) = px_p (kX0_init X) 0 4 ([some (.ref f), some (.int a), some (.int b), some (.int s), some (.int p), some (.int m)], [.int a, .ref f], G) := (px_run_eq _ _ _).trans rfl
theorem fX0_init_4 (X : px_X) (G : px_H) (L : px_L) (f : Nat) (a : Int32) : px_p (kX0_init X) 0 4 (L, [.int a, .ref f], G) = px_wb (px_pf G f 0 0 (.int a)) (fun G1 => px_p (kX0_init X) 0 5 (L, [], G1)) := px_sputi
theorem fX0_init_5 (X : px_X) (G : px_H) (f : Nat) (a b s p m : Int32) : px_p (kX0_init X) 0 5 ([some (.ref f), some (.int a), some (.int b), some (.int s), some (.int p), some (.int m)], [], G) = px_p (kX0_init X) 0 7 ([some (.ref f), some (.int a), some (.int b), some (.int s), some (.int p), some (.int m)], [.int b, .ref f], G) := rfl
theorem fX0_init_7 (X : px_X) (G : px_H) (L : px_L) (f : Nat) (a : Int32) : px_p (kX0_init X) 0 7 (L, [.int a, .ref f], G) = px_wb (px_pf G f 0 1 (.int a)) (fun G1 => px_p (kX0_init X) 0 8 (L, [], G1)) := px_sputi
theorem fX0_init_8 (X : px_X) (G : px_H) (f : Nat) (a b s p m : Int32) : px_p (kX0_init X) 0 8 ([some (.ref f), some (.int a), some (.int b), some (.int s), some (.int p), some (.int m)], [], G) = px_p (kX0_init X) 0 10 ([some (.ref f), some (.int a), some (.int b), some (.int s), some (.int p), some (.int m)], [.int s, .ref f], G) := rfl
theorem fX0_init_10 (X : px_X) (G : px_H) (L : px_L) (f : Nat) (a : Int32) : px_p (kX0_init X) 0 10 (L, [.int a, .ref f], G) = px_wb (px_pf G f 0 2 (.int a)) (fun G1 => px_p (kX0_init X) 0 11 (L, [], G1)) := px_sputi
theorem fX0_init_11 (X : px_X) (G : px_H) (f : Nat) (a b s p m : Int32) : px_p (kX0_init X) 0 11 ([some (.ref f), some (.int a), some (.int b), some (.int s), some (.int p), some (.int m)], [], G) = px_p (kX0_init X) 0 13 ([some (.ref f), some (.int a), some (.int b), some (.int s), some (.int p), some (.int m)], [.int p, .ref f], G) := rfl
theorem fX0_init_13 (X : px_X) (G : px_H) (L : px_L) (f : Nat) (a : Int32) : px_p (kX0_init X) 0 13 (L, [.int a, .ref f], G) = px_wb (px_pf G f 0 3 (.int a)) (fun G1 => px_p (kX0_init X) 0 14 (L, [], G1)) := px_sputi
theorem fX0_init_14 (X : px_X) (G : px_H) (f : Nat) (a b s p m : Int32) : px_p (kX0_init X) 0 14 ([some (.ref f), some (.int a), some (.int b), some (.int s), some (.int p), some (.int m)], [], G) = px_p (kX0_init X) 0 16 ([some (.ref f), some (.int a), some (.int b), some (.int s), some (.int p), some (.int m)], [.int m, .ref f], G) := rfl
theorem fX0_init_16 (X : px_X) (G : px_H) (L : px_L) (f : Nat) (a : Int32) : px_p (kX0_init X) 0 16 (L, [.int a, .ref f], G) = px_wb (px_pf G f 0 4 (.int a)) (fun G1 => px_p (kX0_init X) 0 17 (L, [], G1)) := px_sputi
theorem fX0_init_17 (X : px_X) (G : px_H) (L : px_L) : px_p (kX0_init X) 0 17 (L, [], G) = some (none, G) := rfl
section S35b
variable (d : Nat) (M : Nat → Nat → Int32) (J : Nat → Nat → Int64) (R : Nat → Nat → Option Nat) (c e nL : Nat) (xs : Nat → Int32) (D : px_H)
theorem c_newDive (a b s p m : Int32) : px_ex px_tab (d + 1) 0 [.ref (111 + D.length), .int a, .int b, .int s, .int p, .int m] (hp M J R c e nL xs (D ++ [.inr (0, [.int 0, .int 0, .int 0, .int 0, .int 0])])) = some (none, hp M J R c e nL xs (D ++ [.inr (0, [.int a, .int b, .int s, .int p, .int m])])) := by
  rw [xX0_init]
  simp only [fX0_init_0, fX0_init_4, fX0_init_5, fX0_init_7, fX0_init_8, fX0_init_10, fX0_init_11, fX0_init_13, fX0_init_14, fX0_init_16, fX0_init_17]
  rw [nw_pf _ _ _ _ _ _ rfl, px_wb_s, nw_pf _ _ _ _ _ _ rfl, px_wb_s, nw_pf _ _ _ _ _ _ rfl, px_wb_s, nw_pf _ _ _ _ _ _ rfl, px_wb_s, nw_pf _ _ _ _ _ _ rfl, px_wb_s]
  rfl
end S35b
section S35c
theorem fX2_init_0 (X : px_X) (G : px_H) (f : Nat) (a b s m : Int32) : px_run (px_mk (kX2_init X)) 0 ([some (.ref f), some (.int a), some (.int b), some (.int s), some (.int m)], [], G) = px_p (kX2_init X) 0 4 ([some (.ref f), some (.int a), some (.int b), some (.int s), some (.int m)], [.int 0, .ref f], G) := (px_run_eq _ _ _).trans rfl
theorem fX2_init_4 (X : px_X) (G : px_H) (L : px_L) (f : Nat) (x : Int32) : px_p (kX2_init X) 0 4 (L, [.int x, .ref f], G) = px_wb (px_pf G f 2 4 (.int x)) (fun G1 => px_p (kX2_init X) 0 5 (L, [], G1)) := px_sputi
theorem fX2_init_11 (X : px_X) (G : px_H) (L : px_L) (f : Nat) (x : Int32) : px_p (kX2_init X) 0 11 (L, [.int x, .ref f], G) = cond (decide (x = 0) || decide (x = 1)) (px_wb (px_pf G f 2 6 (.int x)) (fun G1 => px_p (kX2_init X) 0 12 (L, [], G1))) none := px_sputz
theorem fX2_init_14 (X : px_X) (G : px_H) (L : px_L) (f : Nat) (x : Int32) : px_p (kX2_init X) 0 14 (L, [.int x, .ref f], G) = px_wb (px_pf G f 2 7 (.int x)) (fun G1 => px_p (kX2_init X) 0 15 (L, [], G1)) := px_sputi
theorem fX2_init_17 (X : px_X) (G : px_H) (L : px_L) (f : Nat) (x : Int32) : px_p (kX2_init X) 0 17 (L, [.int x, .ref f], G) = px_wb (px_pf G f 2 8 (.int x)) (fun G1 => px_p (kX2_init X) 0 18 (L, [], G1)) := px_sputi
theorem fX2_init_20 (X : px_X) (G : px_H) (L : px_L) (f : Nat) (x : Int32) : px_p (kX2_init X) 0 20 (L, [.int x, .ref f], G) = px_wb (px_pf G f 2 0 (.int x)) (fun G1 => px_p (kX2_init X) 0 21 (L, [], G1)) := px_sputi
theorem fX2_init_23 (X : px_X) (G : px_H) (L : px_L) (f : Nat) (x : Int32) : px_p (kX2_init X) 0 23 (L, [.int x, .ref f], G) = px_wb (px_pf G f 2 1 (.int x)) (fun G1 => px_p (kX2_init X) 0 24 (L, [], G1)) := px_sputi
theorem fX2_init_26 (X : px_X) (G : px_H) (L : px_L) (f : Nat) (x : Int32) : px_p (kX2_init X) 0 26 (L, [.int x, .ref f], G) = px_wb (px_pf G f 2 2 (.int x)) (fun G1 => px_p (kX2_init X) 0 27 (L, [], G1)) := px_sputi
theorem fX2_init_29 (X : px_X) (G : px_H) (L : px_L) (f : Nat) (x : Int32) : px_p (kX2_init X) 0 29 (L, [.int x, .ref f], G) = px_wb (px_pf G f 2 3 (.int x)) (fun G1 => px_p (kX2_init X) 0 30 (L, [], G1)) := px_sputi
theorem fX2_init_5 (X : px_X) (G : px_H) (f : Nat) (a b s m : Int32) : px_p (kX2_init X) 0 5 ([some (.ref f), some (.int a), some (.int b), some (.int s), some (.int m)], [], G) = px_p (kX2_init X) 0 8 ([some (.ref f), some (.int a), some (.int b), some (.int s), some (.int m)], [.ref G.length, .ref f], G ++ [.inl (0, 8, .inl (fun _ => 0))]) := rfl
theorem fX2_init_8 (X : px_X) (G : px_H) (L : px_L) (f g : Nat) : px_p (kX2_init X) 0 8 (L, [.ref g, .ref f], G) = px_wb (px_pf G f 2 5 (.ref g)) (fun G1 => px_p (kX2_init X) 0 9 (L, [], G1)) := px_sputr
theorem fX2_init_9 (X : px_X) (G : px_H) (f : Nat) (a b s m : Int32) : px_p (kX2_init X) 0 9 ([some (.ref f), some (.int a), some (.int b), some (.int s), some (.int m)], [], G) = px_p (kX2_init X) 0 11 ([some (.ref f), some (.int a), some (.int b), some (.int s), some (.int m)], [.int 1, .ref f], G) := rfl
theorem fX2_init_12 (X : px_X) (G : px_H) (f : Nat) (a b s m : Int32) : px_p (kX2_init X) 0 12 ([some (.ref f), some (.int a), some (.int b), some (.int s), some (.int m)], [], G) = px_p (kX2_init X) 0 14 ([some (.ref f), some (.int a), some (.int b), some (.int s), some (.int m)], [.int (-1), .ref f], G) := rfl
theorem fX2_init_15 (X : px_X) (G : px_H) (f : Nat) (a b s m : Int32) : px_p (kX2_init X) 0 15 ([some (.ref f), some (.int a), some (.int b), some (.int s), some (.int m)], [], G) = px_p (kX2_init X) 0 17 ([some (.ref f), some (.int a), some (.int b), some (.int s), some (.int m)], [.int (-1), .ref f], G) := rfl
theorem fX2_init_18 (X : px_X) (G : px_H) (f : Nat) (a b s m : Int32) : px_p (kX2_init X) 0 18 ([some (.ref f), some (.int a), some (.int b), some (.int s), some (.int m)], [], G) = px_p (kX2_init X) 0 20 ([some (.ref f), some (.int a), some (.int b), some (.int s), some (.int m)], [.int a, .ref f], G) := rfl
theorem fX2_init_21 (X : px_X) (G : px_H) (f : Nat) (a b s m : Int32) : px_p (kX2_init X) 0 21 ([some (.ref f), some (.int a), some (.int b), some (.int s), some (.int m)], [], G) = px_p (kX2_init X) 0 23 ([some (.ref f), some (.int a), some (.int b), some (.int s), some (.int m)], [.int b, .ref f], G) := rfl
theorem fX2_init_24 (X : px_X) (G : px_H) (f : Nat) (a b s m : Int32) : px_p (kX2_init X) 0 24 ([some (.ref f), some (.int a), some (.int b), some (.int s), some (.int m)], [], G) = px_p (kX2_init X) 0 26 ([some (.ref f), some (.int a), some (.int b), some (.int s), some (.int m)], [.int s, .ref f], G) := rfl
theorem fX2_init_27 (X : px_X) (G : px_H) (f : Nat) (a b s m : Int32) : px_p (kX2_init X) 0 27 ([some (.ref f), some (.int a), some (.int b), some (.int s), some (.int m)], [], G) = px_p (kX2_init X) 0 29 ([some (.ref f), some (.int a), some (.int b), some (.int s), some (.int m)], [.int m, .ref f], G) := rfl
theorem fX2_init_30 (X : px_X) (G : px_H) (L : px_L) : px_p (kX2_init X) 0 30 (L, [], G) = some (none, G) := rfl
variable (d : Nat) (M : Nat → Nat → Int32) (J : Nat → Nat → Int64) (R : Nat → Nat → Option Nat) (c e nL : Nat) (xs : Nat → Int32) (D : px_H)
theorem c_newFind (a b s m : Int32) : px_ex px_tab (d + 1) 21 [.ref (111 + D.length), .int a, .int b, .int s, .int m] (hp M J R c e nL xs (D ++ [.inr (2, [.int 0, .int 0, .int 0, .int 0, .int 0, .null, .int 0, .int 0, .int 0])])) = some (none, hp M J R c e nL xs (D ++ [.inr (2, [.int a, .int b, .int s, .int m, .int 0, .ref (112 + D.length), .int 1, .int (-1), .int (-1)]), .inl (0, 8, .inl (fun _ => 0))])) := by
  rw [xX2_init]
  simp only [fX2_init_0, fX2_init_4, fX2_init_11, fX2_init_14, fX2_init_17, fX2_init_20, fX2_init_23, fX2_init_26, fX2_init_29, fX2_init_9, fX2_init_12, fX2_init_15, fX2_init_18, fX2_init_21, fX2_init_24, fX2_init_27, fX2_init_5, fX2_init_8, fX2_init_30, decide_true, Bool.or_true, cond_true]
  rw [nw_pf _ _ _ _ _ _ rfl, px_wb_s, hp_app, hp_len, List.length_append, List.append_assoc]
  rw [show ∀ x y : va_E, [x] ++ [y] = x :: [y] from fun _ _ => rfl]
  rw [nw_pf _ _ _ _ _ _ rfl, px_wb_s, nw_pf _ _ _ _ _ _ rfl, px_wb_s, nw_pf _ _ _ _ _ _ rfl, px_wb_s, nw_pf _ _ _ _ _ _ rfl, px_wb_s, nw_pf _ _ _ _ _ _ rfl, px_wb_s, nw_pf _ _ _ _ _ _ rfl, px_wb_s, nw_pf _ _ _ _ _ _ rfl, px_wb_s, nw_pf _ _ _ _ _ _ rfl, px_wb_s]
  rw [show ∀ x : va_E, 111 + (D.length + [x].length) = 112 + D.length from fun x => by simp; omega]
  rfl
end S35c
set_option maxRecDepth 40000 in
theorem fX1_addDive_0 (X : px_X) (M : Nat → Nat → Int32) (J : Nat → Nat → Int64) (R : Nat → Nat → Option Nat) (c e nL : Nat) (xs : Nat → Int32) (D : px_H) (a b s p m : Int32) : px_run (px_mk (kX1_addDive X)) 0 ([some (.ref 32), some (.int a), some (.int b), some (.int s), some (.int p), some (.int m)], [], (hp M J R c e nL xs D)) = cond (decide (M 32 2 < 40)) (px_run (px_mk (kX1_addDive X)) 12 ([some (.ref 32), some (.int a), some (.int b), some (.int s), some (.int p), some (.int m)], [], (hp M J R c e nL xs D))) (some (some (.int (-4)), (hp M J R c e nL xs D))) := (px_run_eq _ _ _).trans rfl
set_option maxRecDepth 40000 in
theorem fX1_addDive_12 (X : px_X) (M : Nat → Nat → Int32) (J : Nat → Nat → Int64) (R : Nat → Nat → Option Nat) (c e nL : Nat) (xs : Nat → Int32) (D : px_H) (a b s p m : Int32) : px_run (px_mk (kX1_addDive X)) 12 ([some (.ref 32), some (.int a), some (.int b), some (.int s), some (.int p), some (.int m)], [], (hp M J R c e nL xs D)) = px_bd (X 0 [.ref (hp M J R c e nL xs D).length, .int a, .int b, .int s, .int p, .int m] ((hp M J R c e nL xs D) ++ [.inr (0, [.int 0, .int 0, .int 0, .int 0, .int 0])])) (fun v G1 => px_p (kX1_addDive X) 12 12 ([some (.ref 32), some (.int a), some (.int b), some (.int s), some (.int p), some (.int m)], px_psh v [.ref (hp M J R c e nL xs D).length, .int (M 32 2), .ref 36], G1)) := (px_run_eq _ _ _).trans rfl
set_option maxRecDepth 40000 in
theorem fX1_addDive_12_12 (X : px_X) (G : px_H) (L : px_L) (v a : Nat) (i : Int32) : px_p (kX1_addDive X) 12 12 (L, [.ref v, .int i, .ref a], G) = px_wb (px_aw G a v 4 0 i) (fun G1 => px_p (kX1_addDive X) 12 13 (L, [], G1)) := px_saast
set_option maxRecDepth 40000 in
theorem fX1_addDive_12_13 (X : px_X) (M : Nat → Nat → Int32) (J : Nat → Nat → Int64) (R : Nat → Nat → Option Nat) (c e nL : Nat) (xs : Nat → Int32) (D : px_H) (a b s p m : Int32) : px_p (kX1_addDive X) 12 13 ([some (.ref 32), some (.int a), some (.int b), some (.int s), some (.int p), some (.int m)], [], (hp M J R c e nL xs D)) = some (some (.int (M 32 2 + 1 - 1)), (hp (px_uR M 32 (upd (M 32) 2 (M 32 2 + 1))) J R c e nL xs D)) := rfl
set_option maxRecDepth 40000 in
theorem fX10_addFind_60 (X : px_X) (M : Nat → Nat → Int32) (J : Nat → Nat → Int64) (R : Nat → Nat → Option Nat) (c e nL : Nat) (xs : Nat → Int32) (D : px_H) (a b s m : Int32) : px_run (px_mk (kX10_addFind X)) 60 ([some (.ref 28), some (.int a), some (.int b), some (.int s), some (.int m)], [], (hp M J R c e nL xs D)) = px_bd (X 21 [.ref (hp M J R c e nL xs D).length, .int a, .int b, .int s, .int m] ((hp M J R c e nL xs D) ++ [.inr (2, [.int 0, .int 0, .int 0, .int 0, .int 0, .null, .int 0, .int 0, .int 0])])) (fun v G1 => px_p (kX10_addFind X) 60 11 ([some (.ref 28), some (.int a), some (.int b), some (.int s), some (.int m)], px_psh v [.ref (hp M J R c e nL xs D).length, .int (M 28 0), .ref 29], G1)) := (px_run_eq _ _ _).trans rfl
set_option maxRecDepth 40000 in
theorem fX10_addFind_60_11 (X : px_X) (G : px_H) (L : px_L) (v a : Nat) (i : Int32) : px_p (kX10_addFind X) 60 11 (L, [.ref v, .int i, .ref a], G) = px_wb (px_aw G a v 3 2 i) (fun G1 => px_p (kX10_addFind X) 60 12 (L, [], G1)) := px_saast
set_option maxRecDepth 40000 in
theorem fX10_addFind_60_12 (X : px_X) (M : Nat → Nat → Int32) (J : Nat → Nat → Int64) (R : Nat → Nat → Option Nat) (c e nL : Nat) (xs : Nat → Int32) (D : px_H) (a b s m : Int32) : px_p (kX10_addFind X) 60 12 ([some (.ref 28), some (.int a), some (.int b), some (.int s), some (.int m)], [], (hp M J R c e nL xs D)) = some (some (.int (M 28 0 + 1 - 1)), (hp (px_uR M 28 (upd (M 28) 0 (M 28 0 + 1))) J R c e nL xs D)) := rfl
section S35d
variable (d : Nat) (M : Nat → Nat → Int32) (J : Nat → Nat → Int64) (R : Nat → Nat → Option Nat) (c e nL : Nat) (xs : Nat → Int32) (D : px_H)
theorem aw_dive {q i : Nat} (hi : i < 40) {fs : List Value} (h : D[q]? = some (.inr (0, fs))) : px_aw (hp M J R c e nL xs D) 36 (111 + q) 4 0 (nI i) = some (hp M J (px_uQ R 36 (va_up (R 36) i (some (111 + q)))) c e nL xs D) := by
  unfold px_aw
  rw [show (hp M J R c e nL xs D)[36]? = some (.inl (4, 40, .inr (.inr (.inr (.inr (R 36)))))) from rfl]
  dsimp only
  rw [hp_get, h]
  dsimp only
  rw [ble13, px_inbT hi (by decide), nI_clamp (by omega)]
  rfl
theorem aw_find {q i : Nat} (hi : i < 20) {fs : List Value} (h : D[q]? = some (.inr (2, fs))) : px_aw (hp M J R c e nL xs D) 29 (111 + q) 3 2 (nI i) = some (hp M J (px_uQ R 29 (va_up (R 29) i (some (111 + q)))) c e nL xs D) := by
  unfold px_aw
  rw [show (hp M J R c e nL xs D)[29]? = some (.inl (3, 20, .inr (.inr (.inr (.inr (R 29)))))) from rfl]
  dsimp only
  rw [hp_get, h]
  dsimp only
  rw [ble13, px_inbT hi (by decide), nI_clamp (by omega)]
  rfl
theorem c_addDive {n : Nat} (hn : n < 40) (h32 : M 32 2 = nI n) (a b s p m : Int32) : px_ex px_tab (d + 2) 17 [Value.ref (32), Value.int (a), Value.int (b), Value.int (s), Value.int (p), Value.int (m)] (hp (M) (J) (R) (c) (e) nL xs (D)) = some (some (.int (nI n)), hp (px_uR M 32 (upd (M 32) 2 (nI (n + 1)))) J (px_uQ R 36 (va_up (R 36) n (some (111 + D.length)))) c e nL xs (D ++ [.inr (0, [.int a, .int b, .int s, .int p, .int m])])) := by
  have hg : (D ++ [.inr (0, [.int a, .int b, .int s, .int p, .int m])])[D.length]? = some (.inr (0, [.int a, .int b, .int s, .int p, .int m])) := get_mid _ _ _
  rw [xX1_addDive, fX1_addDive_0, h32]
  simp (disch := omega) only [px_bd_s, px_psh_s, px_psh_n, px_vb_s, px_ib_s, px_wb_s, px_bo_s, px_bo_n, Bool.cond_decide, cond_true, cond_false, ite_not, Bool.and_true, if_true, if_false, not_true_eq_false, not_false_eq_true, i10, eq_self, decide_true, decide_false, Bool.or_true, Bool.true_or, Bool.or_false, Bool.false_or, zd40, if_pos, fX1_addDive_12, hp_len, hp_app, c_newDive, fX1_addDive_12_12, h32, aw_dive _ _ _ _ _ _ _ _ hn hg, fX1_addDive_12_13, nI_1, nI_pred]
theorem c_addFind60 {n : Nat} (hn : n < 20) (h28 : M 28 0 = nI n) (a b s m : Int32) : px_run (px_mk (kX10_addFind (px_ex px_tab (d + 1)))) 60 ([some (.ref 28), some (.int a), some (.int b), some (.int s), some (.int m)], [], (hp M J R c e nL xs D)) = some (some (.int (nI n)), hp (px_uR M 28 (upd (M 28) 0 (nI (n + 1)))) J (px_uQ R 29 (va_up (R 29) n (some (111 + D.length)))) c e nL xs (D ++ [.inr (2, [.int a, .int b, .int s, .int m, .int 0, .ref (112 + D.length), .int 1, .int (-1), .int (-1)]), .inl (0, 8, .inl (fun _ => 0))])) := by
  have hg : (D ++ [.inr (2, [.int a, .int b, .int s, .int m, .int 0, .ref (112 + D.length), .int 1, .int (-1), .int (-1)]), .inl (0, 8, .inl (fun _ => 0))])[D.length]? = some (.inr (2, [.int a, .int b, .int s, .int m, .int 0, .ref (112 + D.length), .int 1, .int (-1), .int (-1)])) := get_mid _ _ _
  rw [fX10_addFind_60]
  simp (disch := omega) only [px_bd_s, px_psh_s, px_psh_n, px_vb_s, px_ib_s, px_wb_s, px_bo_s, px_bo_n, Bool.cond_decide, cond_true, cond_false, ite_not, Bool.and_true, if_true, if_false, not_true_eq_false, not_false_eq_true, i10, eq_self, decide_true, decide_false, Bool.or_true, Bool.true_or, Bool.or_false, Bool.false_or, hp_len, hp_app, c_newFind, fX10_addFind_60_11, h28, aw_find _ _ _ _ _ _ _ _ hn hg, fX10_addFind_60_12, nI_1, nI_pred]
end S35d
