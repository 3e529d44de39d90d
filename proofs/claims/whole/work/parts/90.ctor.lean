/-! PART 90: THE CONSTRUCTORS: groups of instructions over the cells before an object, the object, the cells behind it (written by wip/whole/mkinit.py) -/
section S90
variable {B A : px_H} {a : Nat}
theorem cs_get (hB : B.length = a) (x : va_E) : (B ++ x :: A)[a]? = some x := by
  rw [List.getElem?_append_right (by omega), hB, Nat.sub_self]
  rfl
theorem cs_set (hB : B.length = a) (x y : va_E) : (B ++ x :: A).set a y = B ++ y :: A := by
  rw [List.set_append_right _ _ (by omega), hB, Nat.sub_self]
  rfl
theorem cs_len (hB : B.length = a) (x : va_E) : (B ++ x :: A).length = a + 1 + A.length := by
  rw [List.length_append, List.length_cons, hB]
  omega
theorem cs_get2 (hB : B.length = a) (x y : va_E) : (B ++ x :: (A ++ [y]))[a + 1 + A.length]? = some y := by
  rw [List.getElem?_append_right (by omega), hB, show a + 1 + A.length - a = A.length + 1 from by omega, List.getElem?_cons_succ, List.getElem?_append_right (Nat.le_refl _), Nat.sub_self]
  rfl
theorem cs_set2 (hB : B.length = a) (x y z : va_E) : (B ++ x :: (A ++ [y])).set (a + 1 + A.length) z = B ++ x :: (A ++ [z]) := by
  rw [List.set_append_right _ _ (by omega), hB, show a + 1 + A.length - a = A.length + 1 from by omega, List.set_cons_succ, List.set_append_right _ _ (Nat.le_refl _), Nat.sub_self]
  rfl
variable {ci k : Nat} {fs : List Value} (is : List px_I) (fall : Nat) (j : px_J) (L : px_L)
theorem ci_i (hB : B.length = a) (h13 : 13 ≤ a) (hk : k < fs.length) (x : Int32) : px_blk (px_aload 0 :: px_push (.int x) :: px_puti ci k :: is) fall j (some (.ref a) :: L, [], B ++ .inr (ci, fs) :: A) = px_blk is fall j (some (.ref a) :: L, [], B ++ .inr (ci, fs.set k (.int x)) :: A) := by
  have e : (px_puti ci k).1 (px_blk is fall j) j (some (.ref a) :: L, [.int x, .ref a], B ++ .inr (ci, fs) :: A) = px_blk is fall j (some (.ref a) :: L, [], B ++ .inr (ci, fs.set k (.int x)) :: A) := by
    unfold px_puti px_mem
    dsimp only
    rw [cs_get hB]
    dsimp only
    rw [Nat.beq_refl, Nat.ble_eq.mpr h13, Nat.blt_eq.mpr hk, cs_set hB]
    rfl
  exact e
theorem ci_z (hB : B.length = a) (h13 : 13 ≤ a) (hk : k < fs.length) (x : Int32) (hx : (decide (x = 0) || decide (x = 1)) = true) : px_blk (px_aload 0 :: px_push (.int x) :: px_putz ci k :: is) fall j (some (.ref a) :: L, [], B ++ .inr (ci, fs) :: A) = px_blk is fall j (some (.ref a) :: L, [], B ++ .inr (ci, fs.set k (.int x)) :: A) := by
  have e : (px_putz ci k).1 (px_blk is fall j) j (some (.ref a) :: L, [.int x, .ref a], B ++ .inr (ci, fs) :: A) = px_blk is fall j (some (.ref a) :: L, [], B ++ .inr (ci, fs.set k (.int x)) :: A) := by
    unfold px_putz px_mem
    dsimp only
    rw [cs_get hB]
    dsimp only
    rw [Nat.beq_refl, Nat.ble_eq.mpr h13, Nat.blt_eq.mpr hk, cs_set hB, hx]
    rfl
  exact e
theorem ci_p (hB : B.length = a) (h13 : 13 ≤ a) (hk : k < fs.length) (p : Nat) : px_blk (px_putr ci k :: is) fall j (some (.ref a) :: L, [.ref p, .ref a], B ++ .inr (ci, fs) :: A) = px_blk is fall j (some (.ref a) :: L, [], B ++ .inr (ci, fs.set k (.ref p)) :: A) := by
  have e : (px_putr ci k).1 (px_blk is fall j) j (some (.ref a) :: L, [.ref p, .ref a], B ++ .inr (ci, fs) :: A) = px_blk is fall j (some (.ref a) :: L, [], B ++ .inr (ci, fs.set k (.ref p)) :: A) := by
    unfold px_putr px_mem
    dsimp only
    rw [cs_get hB]
    dsimp only
    rw [Nat.beq_refl, Nat.ble_eq.mpr h13, Nat.blt_eq.mpr hk, cs_set hB]
    rfl
  exact e
theorem ci_n (hB : B.length = a) (o : va_E) (t n : Nat) (hn : n ≤ 100000) : px_blk (px_aload 0 :: px_push (.int (nI n)) :: px_newi t :: is) fall j (some (.ref a) :: L, [], B ++ o :: A) = px_blk is fall j (some (.ref a) :: L, [.ref (a + 1 + A.length), .ref a], B ++ o :: (A ++ [.inl (t, n, .inl (fun _ => 0))])) := by
  have e : (px_newi t).1 (px_blk is fall j) j (some (.ref a) :: L, [.int (nI n), .ref a], B ++ o :: A) = px_blk is fall j (some (.ref a) :: L, [.ref (a + 1 + A.length), .ref a], B ++ o :: (A ++ [.inl (t, n, .inl (fun _ => 0))])) := by
    unfold px_newi px_mem
    dsimp only
    rw [cs_len hB, nI_clamp (by omega), decide_eq_false (nI_pos (by omega)), Nat.ble_eq.mpr hn, List.append_assoc, List.cons_append]
    rfl
  exact e
theorem ci_a (hB : B.length = a) (h13 : 13 ≤ a) (hk : k < fs.length) (t n : Nat) (hn : n ≤ 100000) : px_blk (px_aload 0 :: px_push (.int (nI n)) :: px_newi t :: px_putr ci k :: is) fall j (some (.ref a) :: L, [], B ++ .inr (ci, fs) :: A) = px_blk is fall j (some (.ref a) :: L, [], B ++ .inr (ci, fs.set k (.ref (a + 1 + A.length))) :: (A ++ [.inl (t, n, .inl (fun _ => 0))])) := (ci_n _ fall j L hB _ t n hn).trans (ci_p is fall j L hB h13 hk _)
theorem ci_l (hB : B.length = a) (h13 : 13 ≤ a) (hk : k < fs.length) (n : Nat) (hn : n ≤ 100000) : px_blk (px_aload 0 :: px_push (.int (nI n)) :: px_newl :: px_putr ci k :: is) fall j (some (.ref a) :: L, [], B ++ .inr (ci, fs) :: A) = px_blk is fall j (some (.ref a) :: L, [], B ++ .inr (ci, fs.set k (.ref (a + 1 + A.length))) :: (A ++ [.inl (2, n, .inr (.inl (fun _ => 0)))])) := by
  refine Eq.trans ?_ (ci_p is fall j L hB h13 hk (a + 1 + A.length))
  have e : px_newl.1 (px_blk (px_putr ci k :: is) fall j) j (some (.ref a) :: L, [.int (nI n), .ref a], B ++ .inr (ci, fs) :: A) = px_blk (px_putr ci k :: is) fall j (some (.ref a) :: L, [.ref (a + 1 + A.length), .ref a], B ++ .inr (ci, fs) :: (A ++ [.inl (2, n, .inr (.inl (fun _ => 0)))])) := by
    unfold px_newl px_mem
    dsimp only
    rw [cs_len hB, nI_clamp (by omega), decide_eq_false (nI_pos (by omega)), Nat.ble_eq.mpr hn, List.append_assoc, List.cons_append]
    rfl
  exact e
theorem ci_r (hB : B.length = a) (h13 : 13 ≤ a) (hk : k < fs.length) (t n : Nat) (hn : n ≤ 100000) : px_blk (px_aload 0 :: px_push (.int (nI n)) :: px_newr t :: px_putr ci k :: is) fall j (some (.ref a) :: L, [], B ++ .inr (ci, fs) :: A) = px_blk is fall j (some (.ref a) :: L, [], B ++ .inr (ci, fs.set k (.ref (a + 1 + A.length))) :: (A ++ [.inl (t, n, .inr (.inr (.inr (.inr (fun _ => none)))))])) := by
  refine Eq.trans ?_ (ci_p is fall j L hB h13 hk (a + 1 + A.length))
  have e : (px_newr t).1 (px_blk (px_putr ci k :: is) fall j) j (some (.ref a) :: L, [.int (nI n), .ref a], B ++ .inr (ci, fs) :: A) = px_blk (px_putr ci k :: is) fall j (some (.ref a) :: L, [.ref (a + 1 + A.length), .ref a], B ++ .inr (ci, fs) :: (A ++ [.inl (t, n, .inr (.inr (.inr (.inr (fun _ => none)))))])) := by
    unfold px_newr px_mem
    dsimp only
    rw [cs_len hB, nI_clamp (by omega), decide_eq_false (nI_pos (by omega)), Nat.ble_eq.mpr hn, List.append_assoc, List.cons_append]
    rfl
  exact e
theorem ci_s (hB : B.length = a) (h13 : 13 ≤ a) (o : va_E) (n i : Nat) (hi : i < n) (hn : n ≤ 1000) (f : Nat → Int32) (x : Int32) (S : List Value) : px_blk (px_dup :: px_push (.int (nI i)) :: px_push (.int x) :: px_iast 0 :: is) fall j (L, .ref (a + 1 + A.length) :: S, B ++ o :: (A ++ [.inl (0, n, .inl f)])) = px_blk is fall j (L, .ref (a + 1 + A.length) :: S, B ++ o :: (A ++ [.inl (0, n, .inl (upd f i x))])) := by
  have e : (px_iast 0).1 (px_blk is fall j) j (L, .int x :: .int (nI i) :: .ref (a + 1 + A.length) :: .ref (a + 1 + A.length) :: S, B ++ o :: (A ++ [.inl (0, n, .inl f)])) = px_blk is fall j (L, .ref (a + 1 + A.length) :: S, B ++ o :: (A ++ [.inl (0, n, .inl (upd f i x))])) := by
    unfold px_iast px_mem
    dsimp only
    rw [cs_get2 hB]
    dsimp only
    rw [Nat.beq_refl, Nat.ble_eq.mpr (show 13 ≤ a + 1 + A.length by omega), px_inbT hi (by omega), cs_set2 hB, nI_clamp (by omega)]
    rfl
  exact e
theorem ci_m (hB : B.length = a) (h13 : 13 ≤ a) (hk : k < fs.length) : px_blk (px_aload 0 :: px_push (.int 4) :: px_push (.int 40) :: px_mna :: px_putr ci k :: is) fall j (some (.ref a) :: L, [], B ++ .inr (ci, fs) :: A) = px_blk is fall j (some (.ref a) :: L, [], B ++ .inr (ci, fs.set k (.ref (a + 1 + A.length))) :: (A ++ (.inl (5, 4, .inr (.inr (.inr (.inr (fun i => if i < 4 then some (a + 1 + A.length + 1 + i) else none))))) :: List.replicate 4 (.inl (0, 40, .inl (fun _ => 0)))))) := by
  refine Eq.trans ?_ (ci_p is fall j L hB h13 hk (a + 1 + A.length))
  have e : px_mna.1 (px_blk (px_putr ci k :: is) fall j) j (some (.ref a) :: L, [.int 40, .int 4, .ref a], B ++ .inr (ci, fs) :: A) = px_blk (px_putr ci k :: is) fall j (some (.ref a) :: L, [.ref (a + 1 + A.length), .ref a], B ++ .inr (ci, fs) :: (A ++ (.inl (5, 4, .inr (.inr (.inr (.inr (fun i => if i < 4 then some (a + 1 + A.length + 1 + i) else none))))) :: List.replicate 4 (.inl (0, 40, .inl (fun _ => 0)))))) := by
    unfold px_mna px_mem
    dsimp only
    rw [cs_len hB, List.append_assoc, List.cons_append]
    rfl
  exact e
/-- another object is made, and kept in a field -/
theorem ci_c (hB : B.length = a) (h13 : 13 ≤ a) (hk : k < fs.length) (X : px_X) (y c' : Nat) (fs' : List Value) (N : px_H) (hX : X y [.ref (a + 1 + A.length)] ((B ++ .inr (ci, fs) :: A) ++ [.inr (c', fs')]) = some (none, (B ++ .inr (ci, fs) :: A) ++ N)) : px_blk (px_aload 0 :: px_new c' fs' :: px_dup :: px_cI X y 1 :: px_putr ci k :: is) fall j (some (.ref a) :: L, [], B ++ .inr (ci, fs) :: A) = px_blk is fall j (some (.ref a) :: L, [], B ++ .inr (ci, fs.set k (.ref (a + 1 + A.length))) :: (A ++ N)) := by
  refine Eq.trans ?_ (ci_p is fall j L hB h13 hk (a + 1 + A.length))
  have e : px_bd (X y [.ref (B ++ .inr (ci, fs) :: A).length] ((B ++ .inr (ci, fs) :: A) ++ [.inr (c', fs')])) (fun v G => px_blk (px_putr ci k :: is) fall j (some (.ref a) :: L, px_psh v [.ref (B ++ .inr (ci, fs) :: A).length, .ref a], G)) = px_blk (px_putr ci k :: is) fall j (some (.ref a) :: L, [.ref (a + 1 + A.length), .ref a], B ++ .inr (ci, fs) :: (A ++ N)) := by
    rw [cs_len hB, hX, px_bd_s, px_psh_n, List.append_assoc, List.cons_append]
  exact e
end S90
theorem cs_0 (k : px_M) (j : px_J) {st : px_S} {is : List px_I} {f : Nat} (h : k 0 = some ([], is, f)) (hm : px_mask [] st.1 = st.1) : px_go k j 0 st = px_blk is f j st := by
  unfold px_go
  rw [h]
  dsimp only
  rw [hm]
