/-! PART 91: THE CONSTRUCTORS (written by wip/whole/mkinit.py) -/
def NX7 (a : Nat) : px_H := .inr (7, [.int 0, .int 0, .int 100, .ref (a + 1), .ref (a + 2), .ref (a + 3), .ref (a + 4), .ref (a + 5), .ref (a + 6), .int 0, .ref (a + 7), .ref (a + 8), .ref (a + 9), .ref (a + 10), .int 0, .ref (a + 11), .ref (a + 12), .ref (a + 13)]) :: ([.inl (0, 8, .inl (fun _ => 0))] ++ [.inl (0, 8, .inl (fun _ => 0))] ++ [.inl (1, 8, .inl (fun _ => 0))] ++ [.inl (0, 24, .inl (fun _ => 0))] ++ [.inl (0, 24, .inl (fun _ => 0))] ++ [.inl (0, 24, .inl (fun _ => 0))] ++ [.inl (0, 200, .inl (fun _ => 0))] ++ [.inl (0, 200, .inl (fun _ => 0))] ++ [.inl (0, 25, .inl (fun _ => 0))] ++ [.inl (0, 24, .inl (fun _ => 0))] ++ [.inl (0, 24, .inl (fun _ => 0))] ++ [.inl (0, 24, .inl (fun _ => 0))] ++ [.inl (0, 24, .inl (fun _ => 0))])
set_option maxRecDepth 4000 in
theorem ct_X7_init (d : Nat) {B : px_H} {a : Nat} (hB : B.length = a) (h13 : 13 ≤ a) : px_ex px_tab (d + 1) 79 [.ref a] (B ++ [.inr (7, [.int 0, .int 0, .int 0, .null, .null, .null, .null, .null, .null, .int 0, .null, .null, .null, .null, .int 0, .null, .null, .null])]) = some (none, B ++ NX7 a) := by
  rw [xX7_init, px_run_eq]
  show px_blk (px_aload 0 :: px_push (.int 0) :: px_puti 7 0 :: px_aload 0 :: px_push (.int 0) :: px_puti 7 1 :: px_aload 0 :: px_push (.int 100) :: px_puti 7 2 :: px_aload 0 :: px_push (.int 8) :: px_newi 0 :: px_putr 7 3 :: px_aload 0 :: px_push (.int 8) :: px_newi 0 :: px_putr 7 4 :: px_aload 0 :: px_push (.int 8) :: px_newi 1 :: px_putr 7 5 :: px_aload 0 :: px_push (.int 24) :: px_newi 0 :: px_putr 7 6 :: px_aload 0 :: px_push (.int 24) :: px_newi 0 :: px_putr 7 7 :: px_aload 0 :: px_push (.int 24) :: px_newi 0 :: px_putr 7 8 :: px_aload 0 :: px_push (.int 0) :: px_puti 7 9 :: px_aload 0 :: px_push (.int 200) :: px_newi 0 :: px_putr 7 10 :: px_aload 0 :: px_push (.int 200) :: px_newi 0 :: px_putr 7 11 :: px_aload 0 :: px_push (.int 25) :: px_newi 0 :: px_putr 7 12 :: px_aload 0 :: px_push (.int 24) :: px_newi 0 :: px_putr 7 13 :: px_aload 0 :: px_push (.int 0) :: px_puti 7 14 :: px_aload 0 :: px_push (.int 24) :: px_newi 0 :: px_putr 7 15 :: px_aload 0 :: px_push (.int 24) :: px_newi 0 :: px_putr 7 16 :: px_aload 0 :: px_push (.int 24) :: px_newi 0 :: px_putr 7 17 :: px_retv :: []) _ _ ([some (.ref a)], [], B ++ .inr (7, [.int 0, .int 0, .int 0, .null, .null, .null, .null, .null, .null, .int 0, .null, .null, .null, .null, .int 0, .null, .null, .null]) :: []) = _
  refine (ci_i _ _ _ _ hB h13 (by simp) 0).trans ?_
  refine (ci_i _ _ _ _ hB h13 (by simp) 0).trans ?_
  refine (ci_i _ _ _ _ hB h13 (by simp) 100).trans ?_
  refine (ci_a _ _ _ _ hB h13 (by simp) 0 8 (by decide)).trans ?_
  refine (ci_a _ _ _ _ hB h13 (by simp) 0 8 (by decide)).trans ?_
  refine (ci_a _ _ _ _ hB h13 (by simp) 1 8 (by decide)).trans ?_
  refine (ci_a _ _ _ _ hB h13 (by simp) 0 24 (by decide)).trans ?_
  refine (ci_a _ _ _ _ hB h13 (by simp) 0 24 (by decide)).trans ?_
  refine (ci_a _ _ _ _ hB h13 (by simp) 0 24 (by decide)).trans ?_
  refine (ci_i _ _ _ _ hB h13 (by simp) 0).trans ?_
  refine (ci_a _ _ _ _ hB h13 (by simp) 0 200 (by decide)).trans ?_
  refine (ci_a _ _ _ _ hB h13 (by simp) 0 200 (by decide)).trans ?_
  refine (ci_a _ _ _ _ hB h13 (by simp) 0 25 (by decide)).trans ?_
  refine (ci_a _ _ _ _ hB h13 (by simp) 0 24 (by decide)).trans ?_
  refine (ci_i _ _ _ _ hB h13 (by simp) 0).trans ?_
  refine (ci_a _ _ _ _ hB h13 (by simp) 0 24 (by decide)).trans ?_
  refine (ci_a _ _ _ _ hB h13 (by simp) 0 24 (by decide)).trans ?_
  refine (ci_a _ _ _ _ hB h13 (by simp) 0 24 (by decide)).trans ?_
  simp only [List.set_cons_succ, List.set_cons_zero, List.nil_append, List.length_cons, List.length_nil, List.length_append, List.append_assoc, Nat.add_assoc, Nat.reduceAdd, Nat.add_zero, Nat.zero_add]
  rfl
def NX10 (a : Nat) : px_H := .inr (10, [.int 0, .int 0, .ref (a + 1), .ref (a + 2), .ref (a + 3)]) :: ([.inl (3, 20, .inr (.inr (.inr (.inr (fun _ => none)))))] ++ [.inl (0, 6, .inl (fun _ => 0))] ++ [.inl (0, 6, .inl (fun _ => 0))])
set_option maxRecDepth 4000 in
theorem ct_X10_init (d : Nat) {B : px_H} {a : Nat} (hB : B.length = a) (h13 : 13 ≤ a) : px_ex px_tab (d + 1) 109 [.ref a] (B ++ [.inr (10, [.int 0, .int 0, .null, .null, .null])]) = some (none, B ++ NX10 a) := by
  rw [xX10_init, px_run_eq]
  show px_blk (px_aload 0 :: px_push (.int 0) :: px_puti 10 0 :: px_aload 0 :: px_push (.int 0) :: px_puti 10 1 :: px_aload 0 :: px_push (.int 20) :: px_newr 3 :: px_putr 10 2 :: px_aload 0 :: px_push (.int 6) :: px_newi 0 :: px_putr 10 3 :: px_aload 0 :: px_push (.int 6) :: px_newi 0 :: px_putr 10 4 :: px_retv :: []) _ _ ([some (.ref a)], [], B ++ .inr (10, [.int 0, .int 0, .null, .null, .null]) :: []) = _
  refine (ci_i _ _ _ _ hB h13 (by simp) 0).trans ?_
  refine (ci_i _ _ _ _ hB h13 (by simp) 0).trans ?_
  refine (ci_r _ _ _ _ hB h13 (by simp) 3 20 (by decide)).trans ?_
  refine (ci_a _ _ _ _ hB h13 (by simp) 0 6 (by decide)).trans ?_
  refine (ci_a _ _ _ _ hB h13 (by simp) 0 6 (by decide)).trans ?_
  simp only [List.set_cons_succ, List.set_cons_zero, List.nil_append, List.length_cons, List.length_nil, List.length_append, List.append_assoc, Nat.add_assoc, Nat.reduceAdd, Nat.add_zero, Nat.zero_add]
  rfl
def NX1 (a : Nat) : px_H := .inr (1, [.int 0, .int 0, .int 0, .ref (a + 1), .ref (a + 2), .ref (a + 3), .ref (a + 4)]) :: ([.inl (0, 8, .inl (fun _ => 0))] ++ [.inl (0, 8, .inl (fun _ => 0))] ++ [.inl (0, 8, .inl (fun _ => 0))] ++ [.inl (4, 40, .inr (.inr (.inr (.inr (fun _ => none)))))])
set_option maxRecDepth 4000 in
theorem ct_X1_init (d : Nat) {B : px_H} {a : Nat} (hB : B.length = a) (h13 : 13 ≤ a) : px_ex px_tab (d + 1) 4 [.ref a] (B ++ [.inr (1, [.int 0, .int 0, .int 0, .null, .null, .null, .null])]) = some (none, B ++ NX1 a) := by
  rw [xX1_init, px_run_eq]
  show px_blk (px_aload 0 :: px_push (.int 0) :: px_puti 1 0 :: px_aload 0 :: px_push (.int 0) :: px_puti 1 1 :: px_aload 0 :: px_push (.int 0) :: px_puti 1 2 :: px_aload 0 :: px_push (.int 8) :: px_newi 0 :: px_putr 1 3 :: px_aload 0 :: px_push (.int 8) :: px_newi 0 :: px_putr 1 4 :: px_aload 0 :: px_push (.int 8) :: px_newi 0 :: px_putr 1 5 :: px_aload 0 :: px_push (.int 40) :: px_newr 4 :: px_putr 1 6 :: px_retv :: []) _ _ ([some (.ref a)], [], B ++ .inr (1, [.int 0, .int 0, .int 0, .null, .null, .null, .null]) :: []) = _
  refine (ci_i _ _ _ _ hB h13 (by simp) 0).trans ?_
  refine (ci_i _ _ _ _ hB h13 (by simp) 0).trans ?_
  refine (ci_i _ _ _ _ hB h13 (by simp) 0).trans ?_
  refine (ci_a _ _ _ _ hB h13 (by simp) 0 8 (by decide)).trans ?_
  refine (ci_a _ _ _ _ hB h13 (by simp) 0 8 (by decide)).trans ?_
  refine (ci_a _ _ _ _ hB h13 (by simp) 0 8 (by decide)).trans ?_
  refine (ci_r _ _ _ _ hB h13 (by simp) 4 40 (by decide)).trans ?_
  simp only [List.set_cons_succ, List.set_cons_zero, List.nil_append, List.length_cons, List.length_nil, List.length_append, List.append_assoc, Nat.add_assoc, Nat.reduceAdd, Nat.add_zero, Nat.zero_add]
  rfl
def NX4 (a : Nat) : px_H := .inr (4, [.int 0, .int 0, .ref (a + 1), .ref (a + 2), .ref (a + 3), .ref (a + 4)]) :: ([.inl (0, 6, .inl (fun _ => 0))] ++ [.inl (0, 160, .inl (fun _ => 0))] ++ [.inl (0, 160, .inl (fun _ => 0))] ++ [.inl (0, 160, .inl (fun _ => 0))])
set_option maxRecDepth 4000 in
theorem ct_X4_init (d : Nat) {B : px_H} {a : Nat} (hB : B.length = a) (h13 : 13 ≤ a) : px_ex px_tab (d + 1) 38 [.ref a] (B ++ [.inr (4, [.int 0, .int 0, .null, .null, .null, .null])]) = some (none, B ++ NX4 a) := by
  rw [xX4_init, px_run_eq]
  show px_blk (px_aload 0 :: px_push (.int 0) :: px_puti 4 0 :: px_aload 0 :: px_push (.int 0) :: px_puti 4 1 :: px_aload 0 :: px_push (.int 6) :: px_newi 0 :: px_putr 4 2 :: px_aload 0 :: px_push (.int 160) :: px_newi 0 :: px_putr 4 3 :: px_aload 0 :: px_push (.int 160) :: px_newi 0 :: px_putr 4 4 :: px_aload 0 :: px_push (.int 160) :: px_newi 0 :: px_putr 4 5 :: px_retv :: []) _ _ ([some (.ref a)], [], B ++ .inr (4, [.int 0, .int 0, .null, .null, .null, .null]) :: []) = _
  refine (ci_i _ _ _ _ hB h13 (by simp) 0).trans ?_
  refine (ci_i _ _ _ _ hB h13 (by simp) 0).trans ?_
  refine (ci_a _ _ _ _ hB h13 (by simp) 0 6 (by decide)).trans ?_
  refine (ci_a _ _ _ _ hB h13 (by simp) 0 160 (by decide)).trans ?_
  refine (ci_a _ _ _ _ hB h13 (by simp) 0 160 (by decide)).trans ?_
  refine (ci_a _ _ _ _ hB h13 (by simp) 0 160 (by decide)).trans ?_
  simp only [List.set_cons_succ, List.set_cons_zero, List.nil_append, List.length_cons, List.length_nil, List.length_append, List.append_assoc, Nat.add_assoc, Nat.reduceAdd, Nat.add_zero, Nat.zero_add]
  rfl
def NX5 (a : Nat) : px_H := .inr (5, [.ref (a + 1), .ref (a + 6), .int 0, .ref (a + 11), .int 0, .int 0, .int 0, .int 0]) :: (NX4 (a + 1) ++ NX4 (a + 6) ++ [.inl (0, 160, .inl (fun _ => 0))])
set_option maxRecDepth 4000 in
theorem ct_X5_init (d : Nat) {B : px_H} {a : Nat} (hB : B.length = a) (h13 : 13 ≤ a) : px_ex px_tab (d + 1 + 1) 48 [.ref a] (B ++ [.inr (5, [.null, .null, .int 0, .null, .int 0, .int 0, .int 0, .int 0])]) = some (none, B ++ NX5 a) := by
  rw [xX5_init, px_run_eq]
  show px_blk (px_aload 0 :: px_new 4 [.int 0, .int 0, .null, .null, .null, .null] :: px_dup :: px_cI (px_ex px_tab (d + 1)) 38 1 :: px_putr 5 0 :: px_aload 0 :: px_new 4 [.int 0, .int 0, .null, .null, .null, .null] :: px_dup :: px_cI (px_ex px_tab (d + 1)) 38 1 :: px_putr 5 1 :: px_aload 0 :: px_push (.int 0) :: px_puti 5 2 :: px_aload 0 :: px_push (.int 160) :: px_newi 0 :: px_putr 5 3 :: px_aload 0 :: px_push (.int 0) :: px_puti 5 4 :: px_aload 0 :: px_push (.int 0) :: px_puti 5 5 :: px_aload 0 :: px_push (.int 0) :: px_puti 5 6 :: px_aload 0 :: px_push (.int 0) :: px_puti 5 7 :: px_retv :: []) _ _ ([some (.ref a)], [], B ++ .inr (5, [.null, .null, .int 0, .null, .int 0, .int 0, .int 0, .int 0]) :: []) = _
  refine (ci_c _ _ _ _ hB h13 (by simp) _ _ _ _ _ (ct_X4_init d (cs_len hB _) (by omega))).trans ?_
  refine (ci_c _ _ _ _ hB h13 (by simp) _ _ _ _ _ (ct_X4_init d (cs_len hB _) (by omega))).trans ?_
  refine (ci_i _ _ _ _ hB h13 (by simp) 0).trans ?_
  refine (ci_a _ _ _ _ hB h13 (by simp) 0 160 (by decide)).trans ?_
  refine (ci_i _ _ _ _ hB h13 (by simp) 0).trans ?_
  refine (ci_i _ _ _ _ hB h13 (by simp) 0).trans ?_
  refine (ci_i _ _ _ _ hB h13 (by simp) 0).trans ?_
  refine (ci_i _ _ _ _ hB h13 (by simp) 0).trans ?_
  simp only [List.set_cons_succ, List.set_cons_zero, List.nil_append, List.length_cons, List.length_nil, List.length_append, List.append_assoc, Nat.add_assoc, Nat.reduceAdd, Nat.add_zero, Nat.zero_add]
  rfl
def NX8 (a : Nat) : px_H := .inr (8, [.ref (a + 1), .int 0, .int 0]) :: ([.inl (0, 101, .inl (fun _ => 0))])
set_option maxRecDepth 4000 in
theorem ct_X8_init (d : Nat) {B : px_H} {a : Nat} (hB : B.length = a) (h13 : 13 ≤ a) : px_ex px_tab (d + 1) 98 [.ref a] (B ++ [.inr (8, [.null, .int 0, .int 0])]) = some (none, B ++ NX8 a) := by
  rw [xX8_init, px_run_eq]
  show px_blk (px_aload 0 :: px_push (.int 101) :: px_newi 0 :: px_putr 8 0 :: px_aload 0 :: px_push (.int 0) :: px_puti 8 1 :: px_aload 0 :: px_push (.int 0) :: px_puti 8 2 :: px_retv :: []) _ _ ([some (.ref a)], [], B ++ .inr (8, [.null, .int 0, .int 0]) :: []) = _
  refine (ci_a _ _ _ _ hB h13 (by simp) 0 101 (by decide)).trans ?_
  refine (ci_i _ _ _ _ hB h13 (by simp) 0).trans ?_
  refine (ci_i _ _ _ _ hB h13 (by simp) 0).trans ?_
  simp only [List.set_cons_succ, List.set_cons_zero, List.nil_append, List.length_cons, List.length_nil, List.length_append, List.append_assoc, Nat.add_assoc, Nat.reduceAdd, Nat.add_zero, Nat.zero_add]
  rfl
def NX3 (a : Nat) : px_H := .inr (3, [.int 0, .int 0, .ref (a + 1), .ref (a + 2), .ref (a + 3), .ref (a + 4), .ref (a + 5), .int 0, .int 0, .ref (a + 6)]) :: ([.inl (0, 4, .inl (fun _ => 0))] ++ [.inl (0, 512, .inl (fun _ => 0))] ++ [.inl (0, 512, .inl (fun _ => 0))] ++ [.inl (2, 512, .inr (.inl (fun _ => 0)))] ++ [.inl (2, 512, .inr (.inl (fun _ => 0)))] ++ [.inl (0, 9, .inl (fun _ => 0))])
set_option maxRecDepth 4000 in
theorem ct_X3_init (d : Nat) {B : px_H} {a : Nat} (hB : B.length = a) (h13 : 13 ≤ a) : px_ex px_tab (d + 1) 30 [.ref a] (B ++ [.inr (3, [.int 0, .int 0, .null, .null, .null, .null, .null, .int 0, .int 0, .null])]) = some (none, B ++ NX3 a) := by
  rw [xX3_init, px_run_eq]
  show px_blk (px_aload 0 :: px_push (.int 0) :: px_puti 3 0 :: px_aload 0 :: px_push (.int 0) :: px_puti 3 1 :: px_aload 0 :: px_push (.int 4) :: px_newi 0 :: px_putr 3 2 :: px_aload 0 :: px_push (.int 512) :: px_newi 0 :: px_putr 3 3 :: px_aload 0 :: px_push (.int 512) :: px_newi 0 :: px_putr 3 4 :: px_aload 0 :: px_push (.int 512) :: px_newl :: px_putr 3 5 :: px_aload 0 :: px_push (.int 512) :: px_newl :: px_putr 3 6 :: px_aload 0 :: px_push (.int 0) :: px_putz 3 7 :: px_aload 0 :: px_push (.int 0) :: px_puti 3 8 :: px_aload 0 :: px_push (.int 9) :: px_newi 0 :: px_putr 3 9 :: px_retv :: []) _ _ ([some (.ref a)], [], B ++ .inr (3, [.int 0, .int 0, .null, .null, .null, .null, .null, .int 0, .int 0, .null]) :: []) = _
  refine (ci_i _ _ _ _ hB h13 (by simp) 0).trans ?_
  refine (ci_i _ _ _ _ hB h13 (by simp) 0).trans ?_
  refine (ci_a _ _ _ _ hB h13 (by simp) 0 4 (by decide)).trans ?_
  refine (ci_a _ _ _ _ hB h13 (by simp) 0 512 (by decide)).trans ?_
  refine (ci_a _ _ _ _ hB h13 (by simp) 0 512 (by decide)).trans ?_
  refine (ci_l _ _ _ _ hB h13 (by simp) 512 (by decide)).trans ?_
  refine (ci_l _ _ _ _ hB h13 (by simp) 512 (by decide)).trans ?_
  refine (ci_z _ _ _ _ hB h13 (by simp) 0 rfl).trans ?_
  refine (ci_i _ _ _ _ hB h13 (by simp) 0).trans ?_
  refine (ci_a _ _ _ _ hB h13 (by simp) 0 9 (by decide)).trans ?_
  simp only [List.set_cons_succ, List.set_cons_zero, List.nil_append, List.length_cons, List.length_nil, List.length_append, List.append_assoc, Nat.add_assoc, Nat.reduceAdd, Nat.add_zero, Nat.zero_add]
  rfl
def NX9 (a : Nat) : px_H := .inr (9, [.int 0, .int 0]) :: ([])
set_option maxRecDepth 4000 in
theorem ct_X9_init (d : Nat) {B : px_H} {a : Nat} (hB : B.length = a) (h13 : 13 ≤ a) : px_ex px_tab (d + 1) 102 [.ref a] (B ++ [.inr (9, [.int 0, .int 0])]) = some (none, B ++ NX9 a) := by
  rw [xX9_init, px_run_eq]
  show px_blk (px_aload 0 :: px_push (.int 0) :: px_puti 9 0 :: px_aload 0 :: px_push (.int 0) :: px_puti 9 1 :: px_retv :: []) _ _ ([some (.ref a)], [], B ++ .inr (9, [.int 0, .int 0]) :: []) = _
  refine (ci_i _ _ _ _ hB h13 (by simp) 0).trans ?_
  refine (ci_i _ _ _ _ hB h13 (by simp) 0).trans ?_
  simp only [List.set_cons_succ, List.set_cons_zero, List.nil_append, List.length_cons, List.length_nil, List.length_append, List.append_assoc, Nat.add_assoc, Nat.reduceAdd, Nat.add_zero, Nat.zero_add]
  rfl
def NX6 (a : Nat) : px_H := .inr (6, [.ref (a + 1), .ref (a + 2), .ref (a + 3)]) :: ([.inl (0, 4, .inl (upd (upd (upd (upd (fun _ => 0) 0 (-1)) 1 (-1)) 2 (-1)) 3 (-1)))] ++ [.inl (0, 4, .inl (fun _ => 0))] ++ (.inl (5, 4, .inr (.inr (.inr (.inr (fun i => if i < 4 then some (a + (4 + i)) else none))))) :: List.replicate 4 (.inl (0, 40, .inl (fun _ => 0)))))
set_option maxRecDepth 4000 in
theorem ct_X6_init (d : Nat) {B : px_H} {a : Nat} (hB : B.length = a) (h13 : 13 ≤ a) : px_ex px_tab (d + 1) 69 [.ref a] (B ++ [.inr (6, [.null, .null, .null])]) = some (none, B ++ NX6 a) := by
  rw [xX6_init, px_run_eq]
  show px_blk (px_aload 0 :: px_push (.int 4) :: px_newi 0 :: px_dup :: px_push (.int 0) :: px_push (.int (-1)) :: px_iast 0 :: px_dup :: px_push (.int 1) :: px_push (.int (-1)) :: px_iast 0 :: px_dup :: px_push (.int 2) :: px_push (.int (-1)) :: px_iast 0 :: px_dup :: px_push (.int 3) :: px_push (.int (-1)) :: px_iast 0 :: px_putr 6 0 :: px_aload 0 :: px_push (.int 4) :: px_newi 0 :: px_putr 6 1 :: px_aload 0 :: px_push (.int 4) :: px_push (.int 40) :: px_mna :: px_putr 6 2 :: px_retv :: []) _ _ ([some (.ref a)], [], B ++ .inr (6, [.null, .null, .null]) :: []) = _
  refine (ci_n _ _ _ _ hB _ 0 4 (by decide)).trans ?_
  refine (ci_s _ _ _ _ hB h13 _ 4 0 (by decide) (by decide) _ (-1) _).trans ?_
  refine (ci_s _ _ _ _ hB h13 _ 4 1 (by decide) (by decide) _ (-1) _).trans ?_
  refine (ci_s _ _ _ _ hB h13 _ 4 2 (by decide) (by decide) _ (-1) _).trans ?_
  refine (ci_s _ _ _ _ hB h13 _ 4 3 (by decide) (by decide) _ (-1) _).trans ?_
  refine (ci_p _ _ _ _ hB h13 (by simp) _).trans ?_
  refine (ci_a _ _ _ _ hB h13 (by simp) 0 4 (by decide)).trans ?_
  refine (ci_m _ _ _ _ hB h13 (by simp)).trans ?_
  simp only [List.set_cons_succ, List.set_cons_zero, List.nil_append, List.length_cons, List.length_nil, List.length_append, List.append_assoc, Nat.add_assoc, Nat.reduceAdd, Nat.add_zero, Nat.zero_add]
  rfl
def NX11 (a : Nat) : px_H := .inr (11, [.ref (a + 1), .ref (a + 15), .ref (a + 19), .ref (a + 24), .ref (a + 36), .ref (a + 38), .ref (a + 45), .ref (a + 46)]) :: (NX7 (a + 1) ++ NX10 (a + 15) ++ NX1 (a + 19) ++ NX5 (a + 24) ++ NX8 (a + 36) ++ NX3 (a + 38) ++ NX9 (a + 45) ++ NX6 (a + 46))
set_option maxRecDepth 4000 in
theorem ct_X11_init (d : Nat) {B : px_H} {a : Nat} (hB : B.length = a) (h13 : 13 ≤ a) : px_ex px_tab (d + 2 + 1) 120 [.ref a] (B ++ [.inr (11, [.null, .null, .null, .null, .null, .null, .null, .null])]) = some (none, B ++ NX11 a) := by
  rw [xX11_init, px_run_eq]
  show px_blk (px_aload 0 :: px_new 7 [.int 0, .int 0, .int 0, .null, .null, .null, .null, .null, .null, .int 0, .null, .null, .null, .null, .int 0, .null, .null, .null] :: px_dup :: px_cI (px_ex px_tab (d + 2)) 79 1 :: px_putr 11 0 :: px_aload 0 :: px_new 10 [.int 0, .int 0, .null, .null, .null] :: px_dup :: px_cI (px_ex px_tab (d + 2)) 109 1 :: px_putr 11 1 :: px_aload 0 :: px_new 1 [.int 0, .int 0, .int 0, .null, .null, .null, .null] :: px_dup :: px_cI (px_ex px_tab (d + 2)) 4 1 :: px_putr 11 2 :: px_aload 0 :: px_new 5 [.null, .null, .int 0, .null, .int 0, .int 0, .int 0, .int 0] :: px_dup :: px_cI (px_ex px_tab (d + 2)) 48 1 :: px_putr 11 3 :: px_aload 0 :: px_new 8 [.null, .int 0, .int 0] :: px_dup :: px_cI (px_ex px_tab (d + 2)) 98 1 :: px_putr 11 4 :: px_aload 0 :: px_new 3 [.int 0, .int 0, .null, .null, .null, .null, .null, .int 0, .int 0, .null] :: px_dup :: px_cI (px_ex px_tab (d + 2)) 30 1 :: px_putr 11 5 :: px_aload 0 :: px_new 9 [.int 0, .int 0] :: px_dup :: px_cI (px_ex px_tab (d + 2)) 102 1 :: px_putr 11 6 :: px_aload 0 :: px_new 6 [.null, .null, .null] :: px_dup :: px_cI (px_ex px_tab (d + 2)) 69 1 :: px_putr 11 7 :: px_retv :: []) _ _ ([some (.ref a)], [], B ++ .inr (11, [.null, .null, .null, .null, .null, .null, .null, .null]) :: []) = _
  refine (ci_c _ _ _ _ hB h13 (by simp) _ _ _ _ _ (ct_X7_init d (cs_len hB _) (by omega))).trans ?_
  refine (ci_c _ _ _ _ hB h13 (by simp) _ _ _ _ _ (ct_X10_init d (cs_len hB _) (by omega))).trans ?_
  refine (ci_c _ _ _ _ hB h13 (by simp) _ _ _ _ _ (ct_X1_init d (cs_len hB _) (by omega))).trans ?_
  refine (ci_c _ _ _ _ hB h13 (by simp) _ _ _ _ _ (ct_X5_init d (cs_len hB _) (by omega))).trans ?_
  refine (ci_c _ _ _ _ hB h13 (by simp) _ _ _ _ _ (ct_X8_init d (cs_len hB _) (by omega))).trans ?_
  refine (ci_c _ _ _ _ hB h13 (by simp) _ _ _ _ _ (ct_X3_init d (cs_len hB _) (by omega))).trans ?_
  refine (ci_c _ _ _ _ hB h13 (by simp) _ _ _ _ _ (ct_X9_init d (cs_len hB _) (by omega))).trans ?_
  refine (ci_c _ _ _ _ hB h13 (by simp) _ _ _ _ _ (ct_X6_init d (cs_len hB _) (by omega))).trans ?_
  simp only [List.set_cons_succ, List.set_cons_zero, List.nil_append, List.length_cons, List.length_nil, List.length_append, List.append_assoc, Nat.add_assoc, Nat.reduceAdd, Nat.add_zero, Nat.zero_add]
  rfl
def NX12 (a : Nat) : px_H := .inr (12, [.int 0, .ref (a + 1), .ref (a + 2), .ref (a + 3), .ref (a + 4), .ref (a + 5), .int 0, .ref (a + 6), .ref (a + 7), .ref (a + 8), .ref (a + 9), .int 0, .int 100, .int 0, .ref (a + 10), .ref (a + 11), .ref (a + 12), .ref (a + 13), .ref (a + 14), .ref (a + 15), .ref (a + 16), .ref (a + 17), .int 0, .ref (a + 18), .ref (a + 19), .int 0, .int 0, .ref (a + 20), .ref (a + 21), .ref (a + 22), .int 0, .ref (a + 23), .ref (a + 24), .ref (a + 25), .ref (a + 26), .ref (a + 27), .ref (a + 28), .int 0, .int 0, .ref (a + 29), .ref (a + 30), .ref (a + 31), .int 0, .ref (a + 32), .ref (a + 33), .int 0, .ref (a + 34), .int 0, .int 0, .int 0, .ref (a + 35), .ref (a + 36), .ref (a + 37), .ref (a + 38), .ref (a + 39), .int 0, .int 0, .int 0, .int 0, .int 0, .int 0, .int 0, .int 0, .int 0, .ref (a + 40), .int 0, .ref (a + 41), .ref (a + 42), .ref (a + 43)]) :: ([.inl (0, 8, .inl (fun _ => 0))] ++ [.inl (0, 8, .inl (fun _ => 0))] ++ [.inl (0, 8, .inl (fun _ => 0))] ++ [.inl (0, 8, .inl (fun _ => 0))] ++ [.inl (1, 8, .inl (fun _ => 0))] ++ [.inl (0, 24, .inl (fun _ => 0))] ++ [.inl (0, 24, .inl (fun _ => 0))] ++ [.inl (0, 24, .inl (fun _ => 0))] ++ [.inl (1, 24, .inl (fun _ => 0))] ++ [.inl (0, 20, .inl (fun _ => 0))] ++ [.inl (0, 20, .inl (fun _ => 0))] ++ [.inl (0, 20, .inl (fun _ => 0))] ++ [.inl (0, 20, .inl (fun _ => 0))] ++ [.inl (0, 20, .inl (fun _ => 0))] ++ [.inl (0, 160, .inl (fun _ => 0))] ++ [.inl (0, 20, .inl (fun _ => 0))] ++ [.inl (0, 20, .inl (fun _ => 0))] ++ [.inl (0, 6, .inl (fun _ => 0))] ++ [.inl (0, 6, .inl (fun _ => 0))] ++ [.inl (0, 8, .inl (fun _ => 0))] ++ [.inl (0, 8, .inl (fun _ => 0))] ++ [.inl (0, 8, .inl (fun _ => 0))] ++ [.inl (0, 40, .inl (fun _ => 0))] ++ [.inl (0, 40, .inl (fun _ => 0))] ++ [.inl (0, 40, .inl (fun _ => 0))] ++ [.inl (0, 40, .inl (fun _ => 0))] ++ [.inl (0, 40, .inl (fun _ => 0))] ++ [.inl (0, 160, .inl (fun _ => 0))] ++ [.inl (0, 320, .inl (fun _ => 0))] ++ [.inl (0, 320, .inl (fun _ => 0))] ++ [.inl (0, 16, .inl (fun _ => 0))] ++ [.inl (0, 9, .inl (fun _ => 0))] ++ [.inl (0, 9, .inl (fun _ => 0))] ++ [.inl (0, 4, .inl (fun _ => 0))] ++ [.inl (0, 4, .inl (fun _ => 0))] ++ [.inl (0, 4, .inl (fun _ => 0))] ++ [.inl (0, 160, .inl (fun _ => 0))] ++ [.inl (1, 160, .inl (fun _ => 0))] ++ [.inl (0, 39, .inl (upd (upd (upd (upd (upd (upd (upd (upd (upd (upd (upd (upd (upd (upd (upd (upd (upd (upd (upd (upd (upd (upd (upd (upd (upd (upd (upd (upd (upd (upd (upd (upd (upd (upd (upd (upd (upd (upd (upd (fun _ => 0) 0 107) 1 105) 2 110) 3 100) 4 0) 5 115) 6 105) 7 122) 8 101) 9 0) 10 108) 11 97) 12 121) 13 101) 14 114) 15 0) 16 120) 17 0) 18 121) 19 0) 20 100) 21 97) 22 121) 23 0) 24 98) 25 97) 26 114) 27 0) 28 111) 29 114) 30 0) 31 97) 32 110) 33 100) 34 0) 35 110) 36 111) 37 116) 38 0))] ++ [.inl (0, 180, .inl (fun _ => 0))] ++ [.inl (0, 9, .inl (fun _ => 0))] ++ [.inl (0, 9, .inl (fun _ => 0))] ++ [.inl (0, 4, .inl (fun _ => 0))])
set_option maxRecDepth 4000 in
theorem ct_X12_init (d : Nat) {B : px_H} {a : Nat} (hB : B.length = a) (h13 : 13 ≤ a) : px_ex px_tab (d + 1) 164 [.ref a] (B ++ [.inr (12, [.int 0, .null, .null, .null, .null, .null, .int 0, .null, .null, .null, .null, .int 0, .int 0, .int 0, .null, .null, .null, .null, .null, .null, .null, .null, .int 0, .null, .null, .int 0, .int 0, .null, .null, .null, .int 0, .null, .null, .null, .null, .null, .null, .int 0, .int 0, .null, .null, .null, .int 0, .null, .null, .int 0, .null, .int 0, .int 0, .int 0, .null, .null, .null, .null, .null, .int 0, .int 0, .int 0, .int 0, .int 0, .int 0, .int 0, .int 0, .int 0, .null, .int 0, .null, .null, .null])]) = px_run (px_mk (kX12_init (px_ex px_tab d))) 577 ([some (.ref a), some (.int 0)], [], B ++ NX12 a) := by
  rw [xX12_init, px_run_eq]
  show px_blk (px_aload 0 :: px_push (.int 8) :: px_newi 0 :: px_putr 12 1 :: px_aload 0 :: px_push (.int 8) :: px_newi 0 :: px_putr 12 2 :: px_aload 0 :: px_push (.int 8) :: px_newi 0 :: px_putr 12 3 :: px_aload 0 :: px_push (.int 8) :: px_newi 0 :: px_putr 12 4 :: px_aload 0 :: px_push (.int 8) :: px_newi 1 :: px_putr 12 5 :: px_aload 0 :: px_push (.int 24) :: px_newi 0 :: px_putr 12 7 :: px_aload 0 :: px_push (.int 24) :: px_newi 0 :: px_putr 12 8 :: px_aload 0 :: px_push (.int 24) :: px_newi 0 :: px_putr 12 9 :: px_aload 0 :: px_push (.int 24) :: px_newi 1 :: px_putr 12 10 :: px_aload 0 :: px_push (.int 100) :: px_puti 12 12 :: px_aload 0 :: px_push (.int 20) :: px_newi 0 :: px_putr 12 14 :: px_aload 0 :: px_push (.int 20) :: px_newi 0 :: px_putr 12 15 :: px_aload 0 :: px_push (.int 20) :: px_newi 0 :: px_putr 12 16 :: px_aload 0 :: px_push (.int 20) :: px_newi 0 :: px_putr 12 17 :: px_aload 0 :: px_push (.int 20) :: px_newi 0 :: px_putr 12 18 :: px_aload 0 :: px_push (.int 160) :: px_newi 0 :: px_putr 12 19 :: px_aload 0 :: px_push (.int 20) :: px_newi 0 :: px_putr 12 20 :: px_aload 0 :: px_push (.int 20) :: px_newi 0 :: px_putr 12 21 :: px_aload 0 :: px_push (.int 6) :: px_newi 0 :: px_putr 12 23 :: px_aload 0 :: px_push (.int 6) :: px_newi 0 :: px_putr 12 24 :: px_aload 0 :: px_push (.int 8) :: px_newi 0 :: px_putr 12 27 :: px_aload 0 :: px_push (.int 8) :: px_newi 0 :: px_putr 12 28 :: px_aload 0 :: px_push (.int 8) :: px_newi 0 :: px_putr 12 29 :: px_aload 0 :: px_push (.int 40) :: px_newi 0 :: px_putr 12 31 :: px_aload 0 :: px_push (.int 40) :: px_newi 0 :: px_putr 12 32 :: px_aload 0 :: px_push (.int 40) :: px_newi 0 :: px_putr 12 33 :: px_aload 0 :: px_push (.int 40) :: px_newi 0 :: px_putr 12 34 :: px_aload 0 :: px_push (.int 40) :: px_newi 0 :: px_putr 12 35 :: px_aload 0 :: px_push (.int 160) :: px_newi 0 :: px_putr 12 36 :: px_aload 0 :: px_push (.int 320) :: px_newi 0 :: px_putr 12 39 :: px_aload 0 :: px_push (.int 320) :: px_newi 0 :: px_putr 12 40 :: px_aload 0 :: px_push (.int 16) :: px_newi 0 :: px_putr 12 41 :: px_aload 0 :: px_push (.int 9) :: px_newi 0 :: px_putr 12 43 :: px_aload 0 :: px_push (.int 9) :: px_newi 0 :: px_putr 12 44 :: px_aload 0 :: px_push (.int 4) :: px_newi 0 :: px_putr 12 46 :: px_aload 0 :: px_push (.int 4) :: px_newi 0 :: px_putr 12 50 :: px_aload 0 :: px_push (.int 4) :: px_newi 0 :: px_putr 12 51 :: px_aload 0 :: px_push (.int 160) :: px_newi 0 :: px_putr 12 52 :: px_aload 0 :: px_push (.int 160) :: px_newi 1 :: px_putr 12 53 :: px_aload 0 :: px_push (.int 39) :: px_newi 0 :: px_dup :: px_push (.int 0) :: px_push (.int 107) :: px_iast 0 :: px_dup :: px_push (.int 1) :: px_push (.int 105) :: px_iast 0 :: px_dup :: px_push (.int 2) :: px_push (.int 110) :: px_iast 0 :: px_dup :: px_push (.int 3) :: px_push (.int 100) :: px_iast 0 :: px_dup :: px_push (.int 4) :: px_push (.int 0) :: px_iast 0 :: px_dup :: px_push (.int 5) :: px_push (.int 115) :: px_iast 0 :: px_dup :: px_push (.int 6) :: px_push (.int 105) :: px_iast 0 :: px_dup :: px_push (.int 7) :: px_push (.int 122) :: px_iast 0 :: px_dup :: px_push (.int 8) :: px_push (.int 101) :: px_iast 0 :: px_dup :: px_push (.int 9) :: px_push (.int 0) :: px_iast 0 :: px_dup :: px_push (.int 10) :: px_push (.int 108) :: px_iast 0 :: px_dup :: px_push (.int 11) :: px_push (.int 97) :: px_iast 0 :: px_dup :: px_push (.int 12) :: px_push (.int 121) :: px_iast 0 :: px_dup :: px_push (.int 13) :: px_push (.int 101) :: px_iast 0 :: px_dup :: px_push (.int 14) :: px_push (.int 114) :: px_iast 0 :: px_dup :: px_push (.int 15) :: px_push (.int 0) :: px_iast 0 :: px_dup :: px_push (.int 16) :: px_push (.int 120) :: px_iast 0 :: px_dup :: px_push (.int 17) :: px_push (.int 0) :: px_iast 0 :: px_dup :: px_push (.int 18) :: px_push (.int 121) :: px_iast 0 :: px_dup :: px_push (.int 19) :: px_push (.int 0) :: px_iast 0 :: px_dup :: px_push (.int 20) :: px_push (.int 100) :: px_iast 0 :: px_dup :: px_push (.int 21) :: px_push (.int 97) :: px_iast 0 :: px_dup :: px_push (.int 22) :: px_push (.int 121) :: px_iast 0 :: px_dup :: px_push (.int 23) :: px_push (.int 0) :: px_iast 0 :: px_dup :: px_push (.int 24) :: px_push (.int 98) :: px_iast 0 :: px_dup :: px_push (.int 25) :: px_push (.int 97) :: px_iast 0 :: px_dup :: px_push (.int 26) :: px_push (.int 114) :: px_iast 0 :: px_dup :: px_push (.int 27) :: px_push (.int 0) :: px_iast 0 :: px_dup :: px_push (.int 28) :: px_push (.int 111) :: px_iast 0 :: px_dup :: px_push (.int 29) :: px_push (.int 114) :: px_iast 0 :: px_dup :: px_push (.int 30) :: px_push (.int 0) :: px_iast 0 :: px_dup :: px_push (.int 31) :: px_push (.int 97) :: px_iast 0 :: px_dup :: px_push (.int 32) :: px_push (.int 110) :: px_iast 0 :: px_dup :: px_push (.int 33) :: px_push (.int 100) :: px_iast 0 :: px_dup :: px_push (.int 34) :: px_push (.int 0) :: px_iast 0 :: px_dup :: px_push (.int 35) :: px_push (.int 110) :: px_iast 0 :: px_dup :: px_push (.int 36) :: px_push (.int 111) :: px_iast 0 :: px_dup :: px_push (.int 37) :: px_push (.int 116) :: px_iast 0 :: px_dup :: px_push (.int 38) :: px_push (.int 0) :: px_iast 0 :: px_putr 12 54 :: px_aload 0 :: px_push (.int 180) :: px_newi 0 :: px_putr 12 64 :: px_aload 0 :: px_push (.int 9) :: px_newi 0 :: px_putr 12 66 :: px_aload 0 :: px_push (.int 9) :: px_newi 0 :: px_putr 12 67 :: px_aload 0 :: px_push (.int 4) :: px_newi 0 :: px_putr 12 68 :: px_push (.int 0) :: px_istore 1 :: []) _ _ ([some (.ref a), none], [], B ++ .inr (12, [.int 0, .null, .null, .null, .null, .null, .int 0, .null, .null, .null, .null, .int 0, .int 0, .int 0, .null, .null, .null, .null, .null, .null, .null, .null, .int 0, .null, .null, .int 0, .int 0, .null, .null, .null, .int 0, .null, .null, .null, .null, .null, .null, .int 0, .int 0, .null, .null, .null, .int 0, .null, .null, .int 0, .null, .int 0, .int 0, .int 0, .null, .null, .null, .null, .null, .int 0, .int 0, .int 0, .int 0, .int 0, .int 0, .int 0, .int 0, .int 0, .null, .int 0, .null, .null, .null]) :: []) = _
  refine (ci_a _ _ _ _ hB h13 (by simp) 0 8 (by decide)).trans ?_
  refine (ci_a _ _ _ _ hB h13 (by simp) 0 8 (by decide)).trans ?_
  refine (ci_a _ _ _ _ hB h13 (by simp) 0 8 (by decide)).trans ?_
  refine (ci_a _ _ _ _ hB h13 (by simp) 0 8 (by decide)).trans ?_
  refine (ci_a _ _ _ _ hB h13 (by simp) 1 8 (by decide)).trans ?_
  refine (ci_a _ _ _ _ hB h13 (by simp) 0 24 (by decide)).trans ?_
  refine (ci_a _ _ _ _ hB h13 (by simp) 0 24 (by decide)).trans ?_
  refine (ci_a _ _ _ _ hB h13 (by simp) 0 24 (by decide)).trans ?_
  refine (ci_a _ _ _ _ hB h13 (by simp) 1 24 (by decide)).trans ?_
  refine (ci_i _ _ _ _ hB h13 (by simp) 100).trans ?_
  refine (ci_a _ _ _ _ hB h13 (by simp) 0 20 (by decide)).trans ?_
  refine (ci_a _ _ _ _ hB h13 (by simp) 0 20 (by decide)).trans ?_
  refine (ci_a _ _ _ _ hB h13 (by simp) 0 20 (by decide)).trans ?_
  refine (ci_a _ _ _ _ hB h13 (by simp) 0 20 (by decide)).trans ?_
  refine (ci_a _ _ _ _ hB h13 (by simp) 0 20 (by decide)).trans ?_
  refine (ci_a _ _ _ _ hB h13 (by simp) 0 160 (by decide)).trans ?_
  refine (ci_a _ _ _ _ hB h13 (by simp) 0 20 (by decide)).trans ?_
  refine (ci_a _ _ _ _ hB h13 (by simp) 0 20 (by decide)).trans ?_
  refine (ci_a _ _ _ _ hB h13 (by simp) 0 6 (by decide)).trans ?_
  refine (ci_a _ _ _ _ hB h13 (by simp) 0 6 (by decide)).trans ?_
  refine (ci_a _ _ _ _ hB h13 (by simp) 0 8 (by decide)).trans ?_
  refine (ci_a _ _ _ _ hB h13 (by simp) 0 8 (by decide)).trans ?_
  refine (ci_a _ _ _ _ hB h13 (by simp) 0 8 (by decide)).trans ?_
  refine (ci_a _ _ _ _ hB h13 (by simp) 0 40 (by decide)).trans ?_
  refine (ci_a _ _ _ _ hB h13 (by simp) 0 40 (by decide)).trans ?_
  refine (ci_a _ _ _ _ hB h13 (by simp) 0 40 (by decide)).trans ?_
  refine (ci_a _ _ _ _ hB h13 (by simp) 0 40 (by decide)).trans ?_
  refine (ci_a _ _ _ _ hB h13 (by simp) 0 40 (by decide)).trans ?_
  refine (ci_a _ _ _ _ hB h13 (by simp) 0 160 (by decide)).trans ?_
  refine (ci_a _ _ _ _ hB h13 (by simp) 0 320 (by decide)).trans ?_
  refine (ci_a _ _ _ _ hB h13 (by simp) 0 320 (by decide)).trans ?_
  refine (ci_a _ _ _ _ hB h13 (by simp) 0 16 (by decide)).trans ?_
  refine (ci_a _ _ _ _ hB h13 (by simp) 0 9 (by decide)).trans ?_
  refine (ci_a _ _ _ _ hB h13 (by simp) 0 9 (by decide)).trans ?_
  refine (ci_a _ _ _ _ hB h13 (by simp) 0 4 (by decide)).trans ?_
  refine (ci_a _ _ _ _ hB h13 (by simp) 0 4 (by decide)).trans ?_
  refine (ci_a _ _ _ _ hB h13 (by simp) 0 4 (by decide)).trans ?_
  refine (ci_a _ _ _ _ hB h13 (by simp) 0 160 (by decide)).trans ?_
  refine (ci_a _ _ _ _ hB h13 (by simp) 1 160 (by decide)).trans ?_
  refine (ci_n _ _ _ _ hB _ 0 39 (by decide)).trans ?_
  refine (ci_s _ _ _ _ hB h13 _ 39 0 (by decide) (by decide) _ 107 _).trans ?_
  refine (ci_s _ _ _ _ hB h13 _ 39 1 (by decide) (by decide) _ 105 _).trans ?_
  refine (ci_s _ _ _ _ hB h13 _ 39 2 (by decide) (by decide) _ 110 _).trans ?_
  refine (ci_s _ _ _ _ hB h13 _ 39 3 (by decide) (by decide) _ 100 _).trans ?_
  refine (ci_s _ _ _ _ hB h13 _ 39 4 (by decide) (by decide) _ 0 _).trans ?_
  refine (ci_s _ _ _ _ hB h13 _ 39 5 (by decide) (by decide) _ 115 _).trans ?_
  refine (ci_s _ _ _ _ hB h13 _ 39 6 (by decide) (by decide) _ 105 _).trans ?_
  refine (ci_s _ _ _ _ hB h13 _ 39 7 (by decide) (by decide) _ 122 _).trans ?_
  refine (ci_s _ _ _ _ hB h13 _ 39 8 (by decide) (by decide) _ 101 _).trans ?_
  refine (ci_s _ _ _ _ hB h13 _ 39 9 (by decide) (by decide) _ 0 _).trans ?_
  refine (ci_s _ _ _ _ hB h13 _ 39 10 (by decide) (by decide) _ 108 _).trans ?_
  refine (ci_s _ _ _ _ hB h13 _ 39 11 (by decide) (by decide) _ 97 _).trans ?_
  refine (ci_s _ _ _ _ hB h13 _ 39 12 (by decide) (by decide) _ 121 _).trans ?_
  refine (ci_s _ _ _ _ hB h13 _ 39 13 (by decide) (by decide) _ 101 _).trans ?_
  refine (ci_s _ _ _ _ hB h13 _ 39 14 (by decide) (by decide) _ 114 _).trans ?_
  refine (ci_s _ _ _ _ hB h13 _ 39 15 (by decide) (by decide) _ 0 _).trans ?_
  refine (ci_s _ _ _ _ hB h13 _ 39 16 (by decide) (by decide) _ 120 _).trans ?_
  refine (ci_s _ _ _ _ hB h13 _ 39 17 (by decide) (by decide) _ 0 _).trans ?_
  refine (ci_s _ _ _ _ hB h13 _ 39 18 (by decide) (by decide) _ 121 _).trans ?_
  refine (ci_s _ _ _ _ hB h13 _ 39 19 (by decide) (by decide) _ 0 _).trans ?_
  refine (ci_s _ _ _ _ hB h13 _ 39 20 (by decide) (by decide) _ 100 _).trans ?_
  refine (ci_s _ _ _ _ hB h13 _ 39 21 (by decide) (by decide) _ 97 _).trans ?_
  refine (ci_s _ _ _ _ hB h13 _ 39 22 (by decide) (by decide) _ 121 _).trans ?_
  refine (ci_s _ _ _ _ hB h13 _ 39 23 (by decide) (by decide) _ 0 _).trans ?_
  refine (ci_s _ _ _ _ hB h13 _ 39 24 (by decide) (by decide) _ 98 _).trans ?_
  refine (ci_s _ _ _ _ hB h13 _ 39 25 (by decide) (by decide) _ 97 _).trans ?_
  refine (ci_s _ _ _ _ hB h13 _ 39 26 (by decide) (by decide) _ 114 _).trans ?_
  refine (ci_s _ _ _ _ hB h13 _ 39 27 (by decide) (by decide) _ 0 _).trans ?_
  refine (ci_s _ _ _ _ hB h13 _ 39 28 (by decide) (by decide) _ 111 _).trans ?_
  refine (ci_s _ _ _ _ hB h13 _ 39 29 (by decide) (by decide) _ 114 _).trans ?_
  refine (ci_s _ _ _ _ hB h13 _ 39 30 (by decide) (by decide) _ 0 _).trans ?_
  refine (ci_s _ _ _ _ hB h13 _ 39 31 (by decide) (by decide) _ 97 _).trans ?_
  refine (ci_s _ _ _ _ hB h13 _ 39 32 (by decide) (by decide) _ 110 _).trans ?_
  refine (ci_s _ _ _ _ hB h13 _ 39 33 (by decide) (by decide) _ 100 _).trans ?_
  refine (ci_s _ _ _ _ hB h13 _ 39 34 (by decide) (by decide) _ 0 _).trans ?_
  refine (ci_s _ _ _ _ hB h13 _ 39 35 (by decide) (by decide) _ 110 _).trans ?_
  refine (ci_s _ _ _ _ hB h13 _ 39 36 (by decide) (by decide) _ 111 _).trans ?_
  refine (ci_s _ _ _ _ hB h13 _ 39 37 (by decide) (by decide) _ 116 _).trans ?_
  refine (ci_s _ _ _ _ hB h13 _ 39 38 (by decide) (by decide) _ 0 _).trans ?_
  refine (ci_p _ _ _ _ hB h13 (by simp) _).trans ?_
  refine (ci_a _ _ _ _ hB h13 (by simp) 0 180 (by decide)).trans ?_
  refine (ci_a _ _ _ _ hB h13 (by simp) 0 9 (by decide)).trans ?_
  refine (ci_a _ _ _ _ hB h13 (by simp) 0 9 (by decide)).trans ?_
  refine (ci_a _ _ _ _ hB h13 (by simp) 0 4 (by decide)).trans ?_
  simp only [List.set_cons_succ, List.set_cons_zero, List.nil_append, List.length_cons, List.length_nil, List.length_append, List.append_assoc, Nat.add_assoc, Nat.reduceAdd, Nat.add_zero, Nat.zero_add]
  rfl
