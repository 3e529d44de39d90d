/-! the code of methods as pure instructions (written by wip/whole/gen.py) -/
def kX4_init (X : px_X) : px_B := [(0, [], [px_aload 0, px_pop, px_aload 0, px_push (.int 0), px_puti 4 0, px_aload 0, px_push (.int 0), px_puti 4 1, px_aload 0, px_push (.int 6), px_newi 0, px_putr 4 2, px_aload 0, px_push (.int 160), px_newi 0, px_putr 4 3, px_aload 0, px_push (.int 160), px_newi 0, px_putr 4 4, px_aload 0, px_push (.int 160), px_newi 0, px_putr 4 5, px_retv], 50)]
set_option maxRecDepth 100000 in
set_option maxHeartbeats 8000000 in
theorem sX4_init (d : Nat) (X : px_X) : px_MS d X YX4_init (kX4_init X) :=
  (ms_cons
  (sb_cons (pc2 := 1) (sx_aload_n (show decode cX4_init 0 = .ok (.aload_n 0, 1) by decide +kernel) rfl) rfl
    (sb_cons (pc2 := 4) (sx_pop (show decode cX4_init 1 = .ok (.invokespecial 3, 3) by decide +kernel) wd_132 wd_1 wd_2) rfl
    (sb_cons (pc2 := 5) (sx_aload_n (show decode cX4_init 4 = .ok (.aload_n 0, 1) by decide +kernel) rfl) rfl
    (sb_cons (pc2 := 6) (sx_iconst (show decode cX4_init 5 = .ok (.iconst 0, 1) by decide +kernel) (by decide)) rfl
    (sb_cons (pc2 := 9) (sx_puti (show decode cX4_init 6 = .ok (.putfield 9, 3) by decide +kernel) rfl iX4 tyX4_ok nmX4 (by decide) wd_133 rfl (Or.inl rfl)) rfl
    (sb_cons (pc2 := 10) (sx_aload_n (show decode cX4_init 9 = .ok (.aload_n 0, 1) by decide +kernel) rfl) rfl
    (sb_cons (pc2 := 11) (sx_iconst (show decode cX4_init 10 = .ok (.iconst 0, 1) by decide +kernel) (by decide)) rfl
    (sb_cons (pc2 := 14) (sx_puti (show decode cX4_init 11 = .ok (.putfield 15, 3) by decide +kernel) rfl iX4 tyX4_ok nmX4 (by decide) wd_134 rfl (Or.inl rfl)) rfl
    (sb_cons (pc2 := 15) (sx_aload_n (show decode cX4_init 14 = .ok (.aload_n 0, 1) by decide +kernel) rfl) rfl
    (sb_cons (pc2 := 17) (sx_bipush (show decode cX4_init 15 = .ok (.bipush 6, 2) by decide +kernel) (by decide)) rfl
    (sb_cons (pc2 := 19) (sx_newi (t := 0) (show decode cX4_init 17 = .ok (.newarray .int, 2) by decide +kernel) rfl (fun _ => rfl) (Or.inl rfl) wd_17) rfl
    (sb_cons (pc2 := 22) (sx_putr (show decode cX4_init 19 = .ok (.putfield 18, 3) by decide +kernel) rfl iX4 tyX4_ok nmX4 (by decide) wd_135 (Or.inr ⟨_, rfl⟩) (Or.inr ⟨rfl, rfl, rfl⟩)) rfl
    (sb_cons (pc2 := 23) (sx_aload_n (show decode cX4_init 22 = .ok (.aload_n 0, 1) by decide +kernel) rfl) rfl
    (sb_cons (pc2 := 26) (sx_sipush (show decode cX4_init 23 = .ok (.sipush 160, 3) by decide +kernel) (by decide)) rfl
    (sb_cons (pc2 := 28) (sx_newi (t := 0) (show decode cX4_init 26 = .ok (.newarray .int, 2) by decide +kernel) rfl (fun _ => rfl) (Or.inl rfl) wd_17) rfl
    (sb_cons (pc2 := 31) (sx_putr (show decode cX4_init 28 = .ok (.putfield 22, 3) by decide +kernel) rfl iX4 tyX4_ok nmX4 (by decide) wd_136 (Or.inr ⟨_, rfl⟩) (Or.inr ⟨rfl, rfl, rfl⟩)) rfl
    (sb_cons (pc2 := 32) (sx_aload_n (show decode cX4_init 31 = .ok (.aload_n 0, 1) by decide +kernel) rfl) rfl
    (sb_cons (pc2 := 35) (sx_sipush (show decode cX4_init 32 = .ok (.sipush 160, 3) by decide +kernel) (by decide)) rfl
    (sb_cons (pc2 := 37) (sx_newi (t := 0) (show decode cX4_init 35 = .ok (.newarray .int, 2) by decide +kernel) rfl (fun _ => rfl) (Or.inl rfl) wd_17) rfl
    (sb_cons (pc2 := 40) (sx_putr (show decode cX4_init 37 = .ok (.putfield 25, 3) by decide +kernel) rfl iX4 tyX4_ok nmX4 (by decide) wd_137 (Or.inr ⟨_, rfl⟩) (Or.inr ⟨rfl, rfl, rfl⟩)) rfl
    (sb_cons (pc2 := 41) (sx_aload_n (show decode cX4_init 40 = .ok (.aload_n 0, 1) by decide +kernel) rfl) rfl
    (sb_cons (pc2 := 44) (sx_sipush (show decode cX4_init 41 = .ok (.sipush 160, 3) by decide +kernel) (by decide)) rfl
    (sb_cons (pc2 := 46) (sx_newi (t := 0) (show decode cX4_init 44 = .ok (.newarray .int, 2) by decide +kernel) rfl (fun _ => rfl) (Or.inl rfl) wd_17) rfl
    (sb_cons (pc2 := 49) (sx_putr (show decode cX4_init 46 = .ok (.putfield 28, 3) by decide +kernel) rfl iX4 tyX4_ok nmX4 (by decide) wd_138 (Or.inr ⟨_, rfl⟩) (Or.inr ⟨rfl, rfl, rfl⟩)) rfl
    (sb_cons (pc2 := 50) (sx_retv (show decode cX4_init 49 = .ok (.return_, 1) by decide +kernel) rfl) rfl sb_nil)))))))))))))))))))))))))
  ms_nil)
def kX4_clear (X : px_X) : px_B := [(0, [], [px_aload 0, px_push (.int 0), px_puti 4 0, px_aload 0, px_push (.int 0), px_puti 4 1, px_retv], 11)]
set_option maxRecDepth 100000 in
set_option maxHeartbeats 8000000 in
theorem sX4_clear (d : Nat) (X : px_X) : px_MS d X YX4_clear (kX4_clear X) :=
  (ms_cons
  (sb_cons (pc2 := 1) (sx_aload_n (show decode cX4_clear 0 = .ok (.aload_n 0, 1) by decide +kernel) rfl) rfl
    (sb_cons (pc2 := 2) (sx_iconst (show decode cX4_clear 1 = .ok (.iconst 0, 1) by decide +kernel) (by decide)) rfl
    (sb_cons (pc2 := 5) (sx_puti (show decode cX4_clear 2 = .ok (.putfield 9, 3) by decide +kernel) rfl iX4 tyX4_ok nmX4 (by decide) wd_133 rfl (Or.inl rfl)) rfl
    (sb_cons (pc2 := 6) (sx_aload_n (show decode cX4_clear 5 = .ok (.aload_n 0, 1) by decide +kernel) rfl) rfl
    (sb_cons (pc2 := 7) (sx_iconst (show decode cX4_clear 6 = .ok (.iconst 0, 1) by decide +kernel) (by decide)) rfl
    (sb_cons (pc2 := 10) (sx_puti (show decode cX4_clear 7 = .ok (.putfield 15, 3) by decide +kernel) rfl iX4 tyX4_ok nmX4 (by decide) wd_134 rfl (Or.inl rfl)) rfl
    (sb_cons (pc2 := 11) (sx_retv (show decode cX4_clear 10 = .ok (.return_, 1) by decide +kernel) rfl) rfl sb_nil)))))))
  ms_nil)
def kX4_add (X : px_X) : px_B := [(0, [], [px_aload 0, px_getf 4 1, px_push (.int 160), px_if2 (fun x y => decide (y ≤ x)) 40, px_aload 0, px_getf 4 3, px_aload 0, px_getf 4 1, px_iload 1, px_iast 0, px_aload 0, px_getf 4 4, px_aload 0, px_getf 4 1, px_iload 2, px_iast 0, px_aload 0, px_dup, px_getf 4 1, px_push (.int 1), (px_i2 fun x y => x + y), px_puti 4 1], 40),
  (40, [false, false, false], [px_retv], 41)]
set_option maxRecDepth 100000 in
set_option maxHeartbeats 8000000 in
theorem sX4_add (d : Nat) (X : px_X) : px_MS d X YX4_add (kX4_add X) :=
  (ms_cons
  (sb_cons (pc2 := 1) (sx_aload_n (show decode cX4_add 0 = .ok (.aload_n 0, 1) by decide +kernel) rfl) rfl
    (sb_cons (pc2 := 4) (sx_getf (show decode cX4_add 1 = .ok (.getfield 15, 3) by decide +kernel) rfl iX4 (by decide) wd_134) rfl
    (sb_cons (pc2 := 7) (sx_sipush (show decode cX4_add 4 = .ok (.sipush 160, 3) by decide +kernel) (by decide)) rfl
    (sb_cons (pc2 := 10) (sx_icmp_ge (show decode cX4_add 7 = .ok (.if_icmp .ge 33, 3) by decide +kernel) (by decide)) rfl
    (sb_cons (pc2 := 11) (sx_aload_n (show decode cX4_add 10 = .ok (.aload_n 0, 1) by decide +kernel) rfl) rfl
    (sb_cons (pc2 := 14) (sx_getf (show decode cX4_add 11 = .ok (.getfield 22, 3) by decide +kernel) rfl iX4 (by decide) wd_136) rfl
    (sb_cons (pc2 := 15) (sx_aload_n (show decode cX4_add 14 = .ok (.aload_n 0, 1) by decide +kernel) rfl) rfl
    (sb_cons (pc2 := 18) (sx_getf (show decode cX4_add 15 = .ok (.getfield 15, 3) by decide +kernel) rfl iX4 (by decide) wd_134) rfl
    (sb_cons (pc2 := 19) (sx_iload_n (show decode cX4_add 18 = .ok (.iload_n 1, 1) by decide +kernel) rfl) rfl
    (sb_cons (pc2 := 20) (sx_iast (show decode cX4_add 19 = .ok (.iastore, 1) by decide +kernel)) rfl
    (sb_cons (pc2 := 21) (sx_aload_n (show decode cX4_add 20 = .ok (.aload_n 0, 1) by decide +kernel) rfl) rfl
    (sb_cons (pc2 := 24) (sx_getf (show decode cX4_add 21 = .ok (.getfield 25, 3) by decide +kernel) rfl iX4 (by decide) wd_137) rfl
    (sb_cons (pc2 := 25) (sx_aload_n (show decode cX4_add 24 = .ok (.aload_n 0, 1) by decide +kernel) rfl) rfl
    (sb_cons (pc2 := 28) (sx_getf (show decode cX4_add 25 = .ok (.getfield 15, 3) by decide +kernel) rfl iX4 (by decide) wd_134) rfl
    (sb_cons (pc2 := 29) (sx_iload_n (show decode cX4_add 28 = .ok (.iload_n 2, 1) by decide +kernel) rfl) rfl
    (sb_cons (pc2 := 30) (sx_iast (show decode cX4_add 29 = .ok (.iastore, 1) by decide +kernel)) rfl
    (sb_cons (pc2 := 31) (sx_aload_n (show decode cX4_add 30 = .ok (.aload_n 0, 1) by decide +kernel) rfl) rfl
    (sb_cons (pc2 := 32) (sx_dup (show decode cX4_add 31 = .ok (.dup, 1) by decide +kernel)) rfl
    (sb_cons (pc2 := 35) (sx_getf (show decode cX4_add 32 = .ok (.getfield 15, 3) by decide +kernel) rfl iX4 (by decide) wd_134) rfl
    (sb_cons (pc2 := 36) (sx_iconst (show decode cX4_add 35 = .ok (.iconst 1, 1) by decide +kernel) (by decide)) rfl
    (sb_cons (pc2 := 37) (sx_iadd (show decode cX4_add 36 = .ok (.iadd, 1) by decide +kernel)) rfl
    (sb_cons (pc2 := 40) (sx_puti (show decode cX4_add 37 = .ok (.putfield 15, 3) by decide +kernel) rfl iX4 tyX4_ok nmX4 (by decide) wd_134 rfl (Or.inl rfl)) rfl sb_nil))))))))))))))))))))))
  (ms_cons
  (sb_cons (pc2 := 41) (sx_retv (show decode cX4_add 40 = .ok (.return_, 1) by decide +kernel) rfl) rfl sb_nil)
  ms_nil))
def kX4_endBar (X : px_X) : px_B := [(0, [], [px_aload 0, px_getf 4 0, px_push (.int 6), px_if2 (fun x y => decide (y ≤ x)) 32, px_aload 0, px_getf 4 2, px_aload 0, px_getf 4 0, px_aload 0, px_getf 4 1, px_iast 0, px_aload 0, px_dup, px_getf 4 0, px_push (.int 1), (px_i2 fun x y => x + y), px_puti 4 0], 32),
  (32, [false], [px_retv], 33)]
set_option maxRecDepth 100000 in
set_option maxHeartbeats 8000000 in
theorem sX4_endBar (d : Nat) (X : px_X) : px_MS d X YX4_endBar (kX4_endBar X) :=
  (ms_cons
  (sb_cons (pc2 := 1) (sx_aload_n (show decode cX4_endBar 0 = .ok (.aload_n 0, 1) by decide +kernel) rfl) rfl
    (sb_cons (pc2 := 4) (sx_getf (show decode cX4_endBar 1 = .ok (.getfield 9, 3) by decide +kernel) rfl iX4 (by decide) wd_133) rfl
    (sb_cons (pc2 := 6) (sx_bipush (show decode cX4_endBar 4 = .ok (.bipush 6, 2) by decide +kernel) (by decide)) rfl
    (sb_cons (pc2 := 9) (sx_icmp_ge (show decode cX4_endBar 6 = .ok (.if_icmp .ge 26, 3) by decide +kernel) (by decide)) rfl
    (sb_cons (pc2 := 10) (sx_aload_n (show decode cX4_endBar 9 = .ok (.aload_n 0, 1) by decide +kernel) rfl) rfl
    (sb_cons (pc2 := 13) (sx_getf (show decode cX4_endBar 10 = .ok (.getfield 18, 3) by decide +kernel) rfl iX4 (by decide) wd_135) rfl
    (sb_cons (pc2 := 14) (sx_aload_n (show decode cX4_endBar 13 = .ok (.aload_n 0, 1) by decide +kernel) rfl) rfl
    (sb_cons (pc2 := 17) (sx_getf (show decode cX4_endBar 14 = .ok (.getfield 9, 3) by decide +kernel) rfl iX4 (by decide) wd_133) rfl
    (sb_cons (pc2 := 18) (sx_aload_n (show decode cX4_endBar 17 = .ok (.aload_n 0, 1) by decide +kernel) rfl) rfl
    (sb_cons (pc2 := 21) (sx_getf (show decode cX4_endBar 18 = .ok (.getfield 15, 3) by decide +kernel) rfl iX4 (by decide) wd_134) rfl
    (sb_cons (pc2 := 22) (sx_iast (show decode cX4_endBar 21 = .ok (.iastore, 1) by decide +kernel)) rfl
    (sb_cons (pc2 := 23) (sx_aload_n (show decode cX4_endBar 22 = .ok (.aload_n 0, 1) by decide +kernel) rfl) rfl
    (sb_cons (pc2 := 24) (sx_dup (show decode cX4_endBar 23 = .ok (.dup, 1) by decide +kernel)) rfl
    (sb_cons (pc2 := 27) (sx_getf (show decode cX4_endBar 24 = .ok (.getfield 9, 3) by decide +kernel) rfl iX4 (by decide) wd_133) rfl
    (sb_cons (pc2 := 28) (sx_iconst (show decode cX4_endBar 27 = .ok (.iconst 1, 1) by decide +kernel) (by decide)) rfl
    (sb_cons (pc2 := 29) (sx_iadd (show decode cX4_endBar 28 = .ok (.iadd, 1) by decide +kernel)) rfl
    (sb_cons (pc2 := 32) (sx_puti (show decode cX4_endBar 29 = .ok (.putfield 9, 3) by decide +kernel) rfl iX4 tyX4_ok nmX4 (by decide) wd_133 rfl (Or.inl rfl)) rfl sb_nil)))))))))))))))))
  (ms_cons
  (sb_cons (pc2 := 33) (sx_retv (show decode cX4_endBar 32 = .ok (.return_, 1) by decide +kernel) rfl) rfl sb_nil)
  ms_nil))
def kX4_firstHolding (X : px_X) : px_B := [(0, [], [px_push (.int 0), px_istore 3], 2),
  (2, [true, true, true, true], [px_iload 3, px_aload 0, px_getf 4 0, px_if2 (fun x y => decide (y ≤ x)) 28, px_aload 0, px_iload 3, px_aload 1, px_iload 2, px_cV X 43 4 4, px_if1 (fun x => decide (x = 0)) 22, px_iload 3, px_reti], 22),
  (22, [true, true, true, true], [px_iinc 3 1, px_goto 2], 28),
  (28, [false, false, false, false], [px_push (.int (-1)), px_reti], 30)]
set_option maxRecDepth 100000 in
set_option maxHeartbeats 8000000 in
theorem sX4_firstHolding (d : Nat) (X : px_X) : px_MS d X YX4_firstHolding (kX4_firstHolding X) :=
  (ms_cons
  (sb_cons (pc2 := 1) (sx_iconst (show decode cX4_firstHolding 0 = .ok (.iconst 0, 1) by decide +kernel) (by decide)) rfl
    (sb_cons (pc2 := 2) (sx_istore_n (show decode cX4_firstHolding 1 = .ok (.istore_n 3, 1) by decide +kernel) rfl) rfl sb_nil))
  (ms_cons
  (sb_cons (pc2 := 3) (sx_iload_n (show decode cX4_firstHolding 2 = .ok (.iload_n 3, 1) by decide +kernel) rfl) rfl
    (sb_cons (pc2 := 4) (sx_aload_n (show decode cX4_firstHolding 3 = .ok (.aload_n 0, 1) by decide +kernel) rfl) rfl
    (sb_cons (pc2 := 7) (sx_getf (show decode cX4_firstHolding 4 = .ok (.getfield 9, 3) by decide +kernel) rfl iX4 (by decide) wd_133) rfl
    (sb_cons (pc2 := 10) (sx_icmp_ge (show decode cX4_firstHolding 7 = .ok (.if_icmp .ge 21, 3) by decide +kernel) (by decide)) rfl
    (sb_cons (pc2 := 11) (sx_aload_n (show decode cX4_firstHolding 10 = .ok (.aload_n 0, 1) by decide +kernel) rfl) rfl
    (sb_cons (pc2 := 12) (sx_iload_n (show decode cX4_firstHolding 11 = .ok (.iload_n 3, 1) by decide +kernel) rfl) rfl
    (sb_cons (pc2 := 13) (sx_aload_n (show decode cX4_firstHolding 12 = .ok (.aload_n 1, 1) by decide +kernel) rfl) rfl
    (sb_cons (pc2 := 14) (sx_iload_n (show decode cX4_firstHolding 13 = .ok (.iload_n 2, 1) by decide +kernel) rfl) rfl
    (sb_cons (pc2 := 17) (sx_cV (Y' := YX4_valueOf) (q := (RX4, TX4, 6)) rfl (show decode cX4_firstHolding 14 = .ok (.invokevirtual 31, 3) by decide +kernel) rfl rfl (px_w4 wd_140 wd_141 wd_142 wd_143) wd_139 ⟨by decide, by decide, by decide +kernel⟩ (by decide)) rfl
    (sb_cons (pc2 := 20) (sx_if_eq (show decode cX4_firstHolding 17 = .ok (.ifCond .eq 5, 3) by decide +kernel) (by decide)) rfl
    (sb_cons (pc2 := 21) (sx_iload_n (show decode cX4_firstHolding 20 = .ok (.iload_n 3, 1) by decide +kernel) rfl) rfl
    (sb_cons (pc2 := 22) (sx_reti (show decode cX4_firstHolding 21 = .ok (.ireturn, 1) by decide +kernel) rfl) rfl sb_nil))))))))))))
  (ms_cons
  (sb_cons (pc2 := 25) (sx_iinc (show decode cX4_firstHolding 22 = .ok (.iinc 3 1, 3) by decide +kernel) (by decide)) rfl
    (sb_cons (pc2 := 28) (px_snd_goto (show decode cX4_firstHolding 25 = .ok (.goto (-23), 3) by decide +kernel) (by decide)) rfl sb_nil))
  (ms_cons
  (sb_cons (pc2 := 29) (sx_iconst (show decode cX4_firstHolding 28 = .ok (.iconst (-1), 1) by decide +kernel) (by decide)) rfl
    (sb_cons (pc2 := 30) (sx_reti (show decode cX4_firstHolding 29 = .ok (.ireturn, 1) by decide +kernel) rfl) rfl sb_nil))
  ms_nil))))
def kX4_valueOf (X : px_X) : px_B := [(0, [], [px_push (.int 0), px_istore 4, px_iload 1, px_if1 (fun x => decide (x ≤ 0)) 18, px_aload 0, px_getf 4 2, px_iload 1, px_push (.int 1), (px_i2 fun x y => x - y), px_iald 0, px_goto 19], 18),
  (18, [true, true, true, true, true, false, false], [px_push (.int 0)], 19),
  (19, [true, true, true, true, true, false, false], [px_istore 5, px_iload 5, px_istore 6], 25),
  (25, [true, true, true, true, true, false, true], [px_iload 6, px_aload 0, px_getf 4 2, px_iload 1, px_iald 0, px_if2 (fun x y => decide (y ≤ x)) 218, px_aload 0, px_getf 4 3, px_iload 6, px_iald 0, px_if1 (fun x => decide (¬ x = 0)) 74, px_iload 4, px_push (.int 160), px_if2 (fun x y => decide (y ≤ x)) 74, px_aload 0, px_getf 4 5, px_iload 4, px_aload 0, px_getf 4 4, px_iload 6, px_iald 0, px_iast 0, px_iinc 4 1, px_goto 212], 74),
  (74, [true, true, true, true, true, false, true], [px_aload 0, px_getf 4 3, px_iload 6, px_iald 0, px_push (.int 1), px_if2 (fun x y => decide (¬ x = y)) 118, px_iload 4, px_push (.int 160), px_if2 (fun x y => decide (y ≤ x)) 118, px_aload 0, px_getf 4 5, px_iload 4, px_aload 0, px_getf 4 4, px_iload 6, px_iald 0, px_aload 2, px_iload 3, px_cS X 44 3, px_iast 0, px_iinc 4 1, px_goto 212], 118),
  (118, [true, true, true, true, true, false, true], [px_aload 0, px_getf 4 3, px_iload 6, px_iald 0, px_push (.int 3), px_if2 (fun x y => decide (y < x)) 166, px_iload 4, px_push (.int 1), px_if2 (fun x y => decide (x < y)) 166, px_aload 0, px_getf 4 5, px_iload 4, px_push (.int 1), (px_i2 fun x y => x - y), px_aload 0, px_getf 4 3, px_iload 6, px_iald 0, px_aload 0, px_getf 4 5, px_iload 4, px_push (.int 1), (px_i2 fun x y => x - y), px_iald 0, px_cS X 45 2, px_iast 0, px_goto 212], 166),
  (166, [true, true, true, true, true, false, true], [px_iload 4, px_push (.int 2), px_if2 (fun x y => decide (x < y)) 212, px_aload 0, px_getf 4 5, px_iload 4, px_push (.int 2), (px_i2 fun x y => x - y), px_aload 0, px_getf 4 3, px_iload 6, px_iald 0, px_aload 0, px_getf 4 5, px_iload 4, px_push (.int 2), (px_i2 fun x y => x - y), px_iald 0, px_aload 0, px_getf 4 5, px_iload 4, px_push (.int 1), (px_i2 fun x y => x - y), px_iald 0, px_cS X 46 3, px_iast 0, px_iinc 4 (-1)], 212),
  (212, [true, true, true, true, true, false, true], [px_iinc 6 1, px_goto 25], 218),
  (218, [true, false, false, false, false, false, false], [px_aload 0, px_getf 4 5, px_push (.int 0), px_iald 0, px_reti], 225)]
set_option maxRecDepth 100000 in
set_option maxHeartbeats 8000000 in
theorem sX4_valueOf (d : Nat) (X : px_X) : px_MS d X YX4_valueOf (kX4_valueOf X) :=
  (ms_cons
  (sb_cons (pc2 := 1) (sx_iconst (show decode cX4_valueOf 0 = .ok (.iconst 0, 1) by decide +kernel) (by decide)) rfl
    (sb_cons (pc2 := 3) (sx_istore (show decode cX4_valueOf 1 = .ok (.istore 4, 2) by decide +kernel)) rfl
    (sb_cons (pc2 := 4) (sx_iload_n (show decode cX4_valueOf 3 = .ok (.iload_n 1, 1) by decide +kernel) rfl) rfl
    (sb_cons (pc2 := 7) (sx_if_le (show decode cX4_valueOf 4 = .ok (.ifCond .le 14, 3) by decide +kernel) (by decide)) rfl
    (sb_cons (pc2 := 8) (sx_aload_n (show decode cX4_valueOf 7 = .ok (.aload_n 0, 1) by decide +kernel) rfl) rfl
    (sb_cons (pc2 := 11) (sx_getf (show decode cX4_valueOf 8 = .ok (.getfield 18, 3) by decide +kernel) rfl iX4 (by decide) wd_135) rfl
    (sb_cons (pc2 := 12) (sx_iload_n (show decode cX4_valueOf 11 = .ok (.iload_n 1, 1) by decide +kernel) rfl) rfl
    (sb_cons (pc2 := 13) (sx_iconst (show decode cX4_valueOf 12 = .ok (.iconst 1, 1) by decide +kernel) (by decide)) rfl
    (sb_cons (pc2 := 14) (sx_isub (show decode cX4_valueOf 13 = .ok (.isub, 1) by decide +kernel)) rfl
    (sb_cons (pc2 := 15) (sx_iald (show decode cX4_valueOf 14 = .ok (.iaload, 1) by decide +kernel)) rfl
    (sb_cons (pc2 := 18) (px_snd_goto (show decode cX4_valueOf 15 = .ok (.goto 4, 3) by decide +kernel) (by decide)) rfl sb_nil)))))))))))
  (ms_cons
  (sb_cons (pc2 := 19) (sx_iconst (show decode cX4_valueOf 18 = .ok (.iconst 0, 1) by decide +kernel) (by decide)) rfl sb_nil)
  (ms_cons
  (sb_cons (pc2 := 21) (sx_istore (show decode cX4_valueOf 19 = .ok (.istore 5, 2) by decide +kernel)) rfl
    (sb_cons (pc2 := 23) (sx_iload (show decode cX4_valueOf 21 = .ok (.iload 5, 2) by decide +kernel)) rfl
    (sb_cons (pc2 := 25) (sx_istore (show decode cX4_valueOf 23 = .ok (.istore 6, 2) by decide +kernel)) rfl sb_nil)))
  (ms_cons
  (sb_cons (pc2 := 27) (sx_iload (show decode cX4_valueOf 25 = .ok (.iload 6, 2) by decide +kernel)) rfl
    (sb_cons (pc2 := 28) (sx_aload_n (show decode cX4_valueOf 27 = .ok (.aload_n 0, 1) by decide +kernel) rfl) rfl
    (sb_cons (pc2 := 31) (sx_getf (show decode cX4_valueOf 28 = .ok (.getfield 18, 3) by decide +kernel) rfl iX4 (by decide) wd_135) rfl
    (sb_cons (pc2 := 32) (sx_iload_n (show decode cX4_valueOf 31 = .ok (.iload_n 1, 1) by decide +kernel) rfl) rfl
    (sb_cons (pc2 := 33) (sx_iald (show decode cX4_valueOf 32 = .ok (.iaload, 1) by decide +kernel)) rfl
    (sb_cons (pc2 := 36) (sx_icmp_ge (show decode cX4_valueOf 33 = .ok (.if_icmp .ge 185, 3) by decide +kernel) (by decide)) rfl
    (sb_cons (pc2 := 37) (sx_aload_n (show decode cX4_valueOf 36 = .ok (.aload_n 0, 1) by decide +kernel) rfl) rfl
    (sb_cons (pc2 := 40) (sx_getf (show decode cX4_valueOf 37 = .ok (.getfield 22, 3) by decide +kernel) rfl iX4 (by decide) wd_136) rfl
    (sb_cons (pc2 := 42) (sx_iload (show decode cX4_valueOf 40 = .ok (.iload 6, 2) by decide +kernel)) rfl
    (sb_cons (pc2 := 43) (sx_iald (show decode cX4_valueOf 42 = .ok (.iaload, 1) by decide +kernel)) rfl
    (sb_cons (pc2 := 46) (sx_if_ne (show decode cX4_valueOf 43 = .ok (.ifCond .ne 31, 3) by decide +kernel) (by decide)) rfl
    (sb_cons (pc2 := 48) (sx_iload (show decode cX4_valueOf 46 = .ok (.iload 4, 2) by decide +kernel)) rfl
    (sb_cons (pc2 := 51) (sx_sipush (show decode cX4_valueOf 48 = .ok (.sipush 160, 3) by decide +kernel) (by decide)) rfl
    (sb_cons (pc2 := 54) (sx_icmp_ge (show decode cX4_valueOf 51 = .ok (.if_icmp .ge 23, 3) by decide +kernel) (by decide)) rfl
    (sb_cons (pc2 := 55) (sx_aload_n (show decode cX4_valueOf 54 = .ok (.aload_n 0, 1) by decide +kernel) rfl) rfl
    (sb_cons (pc2 := 58) (sx_getf (show decode cX4_valueOf 55 = .ok (.getfield 28, 3) by decide +kernel) rfl iX4 (by decide) wd_138) rfl
    (sb_cons (pc2 := 60) (sx_iload (show decode cX4_valueOf 58 = .ok (.iload 4, 2) by decide +kernel)) rfl
    (sb_cons (pc2 := 61) (sx_aload_n (show decode cX4_valueOf 60 = .ok (.aload_n 0, 1) by decide +kernel) rfl) rfl
    (sb_cons (pc2 := 64) (sx_getf (show decode cX4_valueOf 61 = .ok (.getfield 25, 3) by decide +kernel) rfl iX4 (by decide) wd_137) rfl
    (sb_cons (pc2 := 66) (sx_iload (show decode cX4_valueOf 64 = .ok (.iload 6, 2) by decide +kernel)) rfl
    (sb_cons (pc2 := 67) (sx_iald (show decode cX4_valueOf 66 = .ok (.iaload, 1) by decide +kernel)) rfl
    (sb_cons (pc2 := 68) (sx_iast (show decode cX4_valueOf 67 = .ok (.iastore, 1) by decide +kernel)) rfl
    (sb_cons (pc2 := 71) (sx_iinc (show decode cX4_valueOf 68 = .ok (.iinc 4 1, 3) by decide +kernel) (by decide)) rfl
    (sb_cons (pc2 := 74) (px_snd_goto (show decode cX4_valueOf 71 = .ok (.goto 141, 3) by decide +kernel) (by decide)) rfl sb_nil))))))))))))))))))))))))
  (ms_cons
  (sb_cons (pc2 := 75) (sx_aload_n (show decode cX4_valueOf 74 = .ok (.aload_n 0, 1) by decide +kernel) rfl) rfl
    (sb_cons (pc2 := 78) (sx_getf (show decode cX4_valueOf 75 = .ok (.getfield 22, 3) by decide +kernel) rfl iX4 (by decide) wd_136) rfl
    (sb_cons (pc2 := 80) (sx_iload (show decode cX4_valueOf 78 = .ok (.iload 6, 2) by decide +kernel)) rfl
    (sb_cons (pc2 := 81) (sx_iald (show decode cX4_valueOf 80 = .ok (.iaload, 1) by decide +kernel)) rfl
    (sb_cons (pc2 := 82) (sx_iconst (show decode cX4_valueOf 81 = .ok (.iconst 1, 1) by decide +kernel) (by decide)) rfl
    (sb_cons (pc2 := 85) (sx_icmp_ne (show decode cX4_valueOf 82 = .ok (.if_icmp .ne 36, 3) by decide +kernel) (by decide)) rfl
    (sb_cons (pc2 := 87) (sx_iload (show decode cX4_valueOf 85 = .ok (.iload 4, 2) by decide +kernel)) rfl
    (sb_cons (pc2 := 90) (sx_sipush (show decode cX4_valueOf 87 = .ok (.sipush 160, 3) by decide +kernel) (by decide)) rfl
    (sb_cons (pc2 := 93) (sx_icmp_ge (show decode cX4_valueOf 90 = .ok (.if_icmp .ge 28, 3) by decide +kernel) (by decide)) rfl
    (sb_cons (pc2 := 94) (sx_aload_n (show decode cX4_valueOf 93 = .ok (.aload_n 0, 1) by decide +kernel) rfl) rfl
    (sb_cons (pc2 := 97) (sx_getf (show decode cX4_valueOf 94 = .ok (.getfield 28, 3) by decide +kernel) rfl iX4 (by decide) wd_138) rfl
    (sb_cons (pc2 := 99) (sx_iload (show decode cX4_valueOf 97 = .ok (.iload 4, 2) by decide +kernel)) rfl
    (sb_cons (pc2 := 100) (sx_aload_n (show decode cX4_valueOf 99 = .ok (.aload_n 0, 1) by decide +kernel) rfl) rfl
    (sb_cons (pc2 := 103) (sx_getf (show decode cX4_valueOf 100 = .ok (.getfield 25, 3) by decide +kernel) rfl iX4 (by decide) wd_137) rfl
    (sb_cons (pc2 := 105) (sx_iload (show decode cX4_valueOf 103 = .ok (.iload 6, 2) by decide +kernel)) rfl
    (sb_cons (pc2 := 106) (sx_iald (show decode cX4_valueOf 105 = .ok (.iaload, 1) by decide +kernel)) rfl
    (sb_cons (pc2 := 107) (sx_aload_n (show decode cX4_valueOf 106 = .ok (.aload_n 2, 1) by decide +kernel) rfl) rfl
    (sb_cons (pc2 := 108) (sx_iload_n (show decode cX4_valueOf 107 = .ok (.iload_n 3, 1) by decide +kernel) rfl) rfl
    (sb_cons (pc2 := 111) (sx_cS (Y' := YX4_named) rfl (show decode cX4_valueOf 108 = .ok (.invokestatic 35, 3) by decide +kernel) rfl (px_w3 wd_145 wd_146 wd_143) wd_144 ⟨by decide, by decide, by decide +kernel⟩ (by decide)) rfl
    (sb_cons (pc2 := 112) (sx_iast (show decode cX4_valueOf 111 = .ok (.iastore, 1) by decide +kernel)) rfl
    (sb_cons (pc2 := 115) (sx_iinc (show decode cX4_valueOf 112 = .ok (.iinc 4 1, 3) by decide +kernel) (by decide)) rfl
    (sb_cons (pc2 := 118) (px_snd_goto (show decode cX4_valueOf 115 = .ok (.goto 97, 3) by decide +kernel) (by decide)) rfl sb_nil))))))))))))))))))))))
  (ms_cons
  (sb_cons (pc2 := 119) (sx_aload_n (show decode cX4_valueOf 118 = .ok (.aload_n 0, 1) by decide +kernel) rfl) rfl
    (sb_cons (pc2 := 122) (sx_getf (show decode cX4_valueOf 119 = .ok (.getfield 22, 3) by decide +kernel) rfl iX4 (by decide) wd_136) rfl
    (sb_cons (pc2 := 124) (sx_iload (show decode cX4_valueOf 122 = .ok (.iload 6, 2) by decide +kernel)) rfl
    (sb_cons (pc2 := 125) (sx_iald (show decode cX4_valueOf 124 = .ok (.iaload, 1) by decide +kernel)) rfl
    (sb_cons (pc2 := 126) (sx_iconst (show decode cX4_valueOf 125 = .ok (.iconst 3, 1) by decide +kernel) (by decide)) rfl
    (sb_cons (pc2 := 129) (sx_icmp_gt (show decode cX4_valueOf 126 = .ok (.if_icmp .gt 40, 3) by decide +kernel) (by decide)) rfl
    (sb_cons (pc2 := 131) (sx_iload (show decode cX4_valueOf 129 = .ok (.iload 4, 2) by decide +kernel)) rfl
    (sb_cons (pc2 := 132) (sx_iconst (show decode cX4_valueOf 131 = .ok (.iconst 1, 1) by decide +kernel) (by decide)) rfl
    (sb_cons (pc2 := 135) (sx_icmp_lt (show decode cX4_valueOf 132 = .ok (.if_icmp .lt 34, 3) by decide +kernel) (by decide)) rfl
    (sb_cons (pc2 := 136) (sx_aload_n (show decode cX4_valueOf 135 = .ok (.aload_n 0, 1) by decide +kernel) rfl) rfl
    (sb_cons (pc2 := 139) (sx_getf (show decode cX4_valueOf 136 = .ok (.getfield 28, 3) by decide +kernel) rfl iX4 (by decide) wd_138) rfl
    (sb_cons (pc2 := 141) (sx_iload (show decode cX4_valueOf 139 = .ok (.iload 4, 2) by decide +kernel)) rfl
    (sb_cons (pc2 := 142) (sx_iconst (show decode cX4_valueOf 141 = .ok (.iconst 1, 1) by decide +kernel) (by decide)) rfl
    (sb_cons (pc2 := 143) (sx_isub (show decode cX4_valueOf 142 = .ok (.isub, 1) by decide +kernel)) rfl
    (sb_cons (pc2 := 144) (sx_aload_n (show decode cX4_valueOf 143 = .ok (.aload_n 0, 1) by decide +kernel) rfl) rfl
    (sb_cons (pc2 := 147) (sx_getf (show decode cX4_valueOf 144 = .ok (.getfield 22, 3) by decide +kernel) rfl iX4 (by decide) wd_136) rfl
    (sb_cons (pc2 := 149) (sx_iload (show decode cX4_valueOf 147 = .ok (.iload 6, 2) by decide +kernel)) rfl
    (sb_cons (pc2 := 150) (sx_iald (show decode cX4_valueOf 149 = .ok (.iaload, 1) by decide +kernel)) rfl
    (sb_cons (pc2 := 151) (sx_aload_n (show decode cX4_valueOf 150 = .ok (.aload_n 0, 1) by decide +kernel) rfl) rfl
    (sb_cons (pc2 := 154) (sx_getf (show decode cX4_valueOf 151 = .ok (.getfield 28, 3) by decide +kernel) rfl iX4 (by decide) wd_138) rfl
    (sb_cons (pc2 := 156) (sx_iload (show decode cX4_valueOf 154 = .ok (.iload 4, 2) by decide +kernel)) rfl
    (sb_cons (pc2 := 157) (sx_iconst (show decode cX4_valueOf 156 = .ok (.iconst 1, 1) by decide +kernel) (by decide)) rfl
    (sb_cons (pc2 := 158) (sx_isub (show decode cX4_valueOf 157 = .ok (.isub, 1) by decide +kernel)) rfl
    (sb_cons (pc2 := 159) (sx_iald (show decode cX4_valueOf 158 = .ok (.iaload, 1) by decide +kernel)) rfl
    (sb_cons (pc2 := 162) (sx_cS (Y' := YX4_ofOne) rfl (show decode cX4_valueOf 159 = .ok (.invokestatic 38, 3) by decide +kernel) rfl (px_w3 wd_148 wd_149 wd_143) wd_147 ⟨by decide, by decide, by decide +kernel⟩ (by decide)) rfl
    (sb_cons (pc2 := 163) (sx_iast (show decode cX4_valueOf 162 = .ok (.iastore, 1) by decide +kernel)) rfl
    (sb_cons (pc2 := 166) (px_snd_goto (show decode cX4_valueOf 163 = .ok (.goto 49, 3) by decide +kernel) (by decide)) rfl sb_nil)))))))))))))))))))))))))))
  (ms_cons
  (sb_cons (pc2 := 168) (sx_iload (show decode cX4_valueOf 166 = .ok (.iload 4, 2) by decide +kernel)) rfl
    (sb_cons (pc2 := 169) (sx_iconst (show decode cX4_valueOf 168 = .ok (.iconst 2, 1) by decide +kernel) (by decide)) rfl
    (sb_cons (pc2 := 172) (sx_icmp_lt (show decode cX4_valueOf 169 = .ok (.if_icmp .lt 43, 3) by decide +kernel) (by decide)) rfl
    (sb_cons (pc2 := 173) (sx_aload_n (show decode cX4_valueOf 172 = .ok (.aload_n 0, 1) by decide +kernel) rfl) rfl
    (sb_cons (pc2 := 176) (sx_getf (show decode cX4_valueOf 173 = .ok (.getfield 28, 3) by decide +kernel) rfl iX4 (by decide) wd_138) rfl
    (sb_cons (pc2 := 178) (sx_iload (show decode cX4_valueOf 176 = .ok (.iload 4, 2) by decide +kernel)) rfl
    (sb_cons (pc2 := 179) (sx_iconst (show decode cX4_valueOf 178 = .ok (.iconst 2, 1) by decide +kernel) (by decide)) rfl
    (sb_cons (pc2 := 180) (sx_isub (show decode cX4_valueOf 179 = .ok (.isub, 1) by decide +kernel)) rfl
    (sb_cons (pc2 := 181) (sx_aload_n (show decode cX4_valueOf 180 = .ok (.aload_n 0, 1) by decide +kernel) rfl) rfl
    (sb_cons (pc2 := 184) (sx_getf (show decode cX4_valueOf 181 = .ok (.getfield 22, 3) by decide +kernel) rfl iX4 (by decide) wd_136) rfl
    (sb_cons (pc2 := 186) (sx_iload (show decode cX4_valueOf 184 = .ok (.iload 6, 2) by decide +kernel)) rfl
    (sb_cons (pc2 := 187) (sx_iald (show decode cX4_valueOf 186 = .ok (.iaload, 1) by decide +kernel)) rfl
    (sb_cons (pc2 := 188) (sx_aload_n (show decode cX4_valueOf 187 = .ok (.aload_n 0, 1) by decide +kernel) rfl) rfl
    (sb_cons (pc2 := 191) (sx_getf (show decode cX4_valueOf 188 = .ok (.getfield 28, 3) by decide +kernel) rfl iX4 (by decide) wd_138) rfl
    (sb_cons (pc2 := 193) (sx_iload (show decode cX4_valueOf 191 = .ok (.iload 4, 2) by decide +kernel)) rfl
    (sb_cons (pc2 := 194) (sx_iconst (show decode cX4_valueOf 193 = .ok (.iconst 2, 1) by decide +kernel) (by decide)) rfl
    (sb_cons (pc2 := 195) (sx_isub (show decode cX4_valueOf 194 = .ok (.isub, 1) by decide +kernel)) rfl
    (sb_cons (pc2 := 196) (sx_iald (show decode cX4_valueOf 195 = .ok (.iaload, 1) by decide +kernel)) rfl
    (sb_cons (pc2 := 197) (sx_aload_n (show decode cX4_valueOf 196 = .ok (.aload_n 0, 1) by decide +kernel) rfl) rfl
    (sb_cons (pc2 := 200) (sx_getf (show decode cX4_valueOf 197 = .ok (.getfield 28, 3) by decide +kernel) rfl iX4 (by decide) wd_138) rfl
    (sb_cons (pc2 := 202) (sx_iload (show decode cX4_valueOf 200 = .ok (.iload 4, 2) by decide +kernel)) rfl
    (sb_cons (pc2 := 203) (sx_iconst (show decode cX4_valueOf 202 = .ok (.iconst 1, 1) by decide +kernel) (by decide)) rfl
    (sb_cons (pc2 := 204) (sx_isub (show decode cX4_valueOf 203 = .ok (.isub, 1) by decide +kernel)) rfl
    (sb_cons (pc2 := 205) (sx_iald (show decode cX4_valueOf 204 = .ok (.iaload, 1) by decide +kernel)) rfl
    (sb_cons (pc2 := 208) (sx_cS (Y' := YX4_ofTwo) rfl (show decode cX4_valueOf 205 = .ok (.invokestatic 42, 3) by decide +kernel) rfl (px_w3 wd_151 wd_152 wd_143) wd_150 ⟨by decide, by decide, by decide +kernel⟩ (by decide)) rfl
    (sb_cons (pc2 := 209) (sx_iast (show decode cX4_valueOf 208 = .ok (.iastore, 1) by decide +kernel)) rfl
    (sb_cons (pc2 := 212) (sx_iinc (show decode cX4_valueOf 209 = .ok (.iinc 4 (-1), 3) by decide +kernel) (by decide)) rfl sb_nil)))))))))))))))))))))))))))
  (ms_cons
  (sb_cons (pc2 := 215) (sx_iinc (show decode cX4_valueOf 212 = .ok (.iinc 6 1, 3) by decide +kernel) (by decide)) rfl
    (sb_cons (pc2 := 218) (px_snd_goto (show decode cX4_valueOf 215 = .ok (.goto (-190), 3) by decide +kernel) (by decide)) rfl sb_nil))
  (ms_cons
  (sb_cons (pc2 := 219) (sx_aload_n (show decode cX4_valueOf 218 = .ok (.aload_n 0, 1) by decide +kernel) rfl) rfl
    (sb_cons (pc2 := 222) (sx_getf (show decode cX4_valueOf 219 = .ok (.getfield 28, 3) by decide +kernel) rfl iX4 (by decide) wd_138) rfl
    (sb_cons (pc2 := 223) (sx_iconst (show decode cX4_valueOf 222 = .ok (.iconst 0, 1) by decide +kernel) (by decide)) rfl
    (sb_cons (pc2 := 224) (sx_iald (show decode cX4_valueOf 223 = .ok (.iaload, 1) by decide +kernel)) rfl
    (sb_cons (pc2 := 225) (sx_reti (show decode cX4_valueOf 224 = .ok (.ireturn, 1) by decide +kernel) rfl) rfl sb_nil)))))
  ms_nil)))))))))
def kX4_named (X : px_X) : px_B := [(0, [], [px_iload 0, px_sw [(0, 36), (1, 41), (2, 46), (3, 51), (4, 56)] 61], 36),
  (36, [false, true, false], [px_aload 1, px_getf 2 0, px_reti], 41),
  (41, [false, true, false], [px_aload 1, px_getf 2 3, px_reti], 46),
  (46, [false, true, false], [px_aload 1, px_getf 2 2, px_reti], 51),
  (51, [false, true, false], [px_aload 1, px_cV X 22 1 2, px_reti], 56),
  (56, [false, true, false], [px_aload 1, px_cV X 23 1 2, px_reti], 61),
  (61, [false, false, true], [px_iload 2, px_reti], 63)]
set_option maxRecDepth 100000 in
set_option maxHeartbeats 8000000 in
theorem sX4_named (d : Nat) (X : px_X) : px_MS d X YX4_named (kX4_named X) :=
  (ms_cons
  (sb_cons (pc2 := 1) (sx_iload_n (show decode cX4_named 0 = .ok (.iload_n 0, 1) by decide +kernel) rfl) rfl
    (sb_cons (pc2 := 36) (sx_tsw (show decode cX4_named 1 = .ok (.tableswitch 60 0 4 #[35, 40, 45, 50, 55], 35) by decide +kernel) (by decide) (by decide +kernel) (by decide +kernel)) rfl sb_nil))
  (ms_cons
  (sb_cons (pc2 := 37) (sx_aload_n (show decode cX4_named 36 = .ok (.aload_n 1, 1) by decide +kernel) rfl) rfl
    (sb_cons (pc2 := 40) (sx_getf (show decode cX4_named 37 = .ok (.getfield 46, 3) by decide +kernel) rfl iX2 (by decide) wd_153) rfl
    (sb_cons (pc2 := 41) (sx_reti (show decode cX4_named 40 = .ok (.ireturn, 1) by decide +kernel) rfl) rfl sb_nil)))
  (ms_cons
  (sb_cons (pc2 := 42) (sx_aload_n (show decode cX4_named 41 = .ok (.aload_n 1, 1) by decide +kernel) rfl) rfl
    (sb_cons (pc2 := 45) (sx_getf (show decode cX4_named 42 = .ok (.getfield 51, 3) by decide +kernel) rfl iX2 (by decide) wd_154) rfl
    (sb_cons (pc2 := 46) (sx_reti (show decode cX4_named 45 = .ok (.ireturn, 1) by decide +kernel) rfl) rfl sb_nil)))
  (ms_cons
  (sb_cons (pc2 := 47) (sx_aload_n (show decode cX4_named 46 = .ok (.aload_n 1, 1) by decide +kernel) rfl) rfl
    (sb_cons (pc2 := 50) (sx_getf (show decode cX4_named 47 = .ok (.getfield 54, 3) by decide +kernel) rfl iX2 (by decide) wd_155) rfl
    (sb_cons (pc2 := 51) (sx_reti (show decode cX4_named 50 = .ok (.ireturn, 1) by decide +kernel) rfl) rfl sb_nil)))
  (ms_cons
  (sb_cons (pc2 := 52) (sx_aload_n (show decode cX4_named 51 = .ok (.aload_n 1, 1) by decide +kernel) rfl) rfl
    (sb_cons (pc2 := 55) (sx_cV (Y' := YX2_x) (q := (RX2, TX2, 9)) rfl (show decode cX4_named 52 = .ok (.invokevirtual 57, 3) by decide +kernel) rfl rfl (px_w4 wd_157 wd_158 wd_159 wd_100) wd_156 ⟨by decide, by decide, by decide +kernel⟩ (by decide)) rfl
    (sb_cons (pc2 := 56) (sx_reti (show decode cX4_named 55 = .ok (.ireturn, 1) by decide +kernel) rfl) rfl sb_nil)))
  (ms_cons
  (sb_cons (pc2 := 57) (sx_aload_n (show decode cX4_named 56 = .ok (.aload_n 1, 1) by decide +kernel) rfl) rfl
    (sb_cons (pc2 := 60) (sx_cV (Y' := YX2_y) (q := (RX2, TX2, 9)) rfl (show decode cX4_named 57 = .ok (.invokevirtual 61, 3) by decide +kernel) rfl rfl (px_w4 wd_161 wd_162 wd_163 wd_100) wd_160 ⟨by decide, by decide, by decide +kernel⟩ (by decide)) rfl
    (sb_cons (pc2 := 61) (sx_reti (show decode cX4_named 60 = .ok (.ireturn, 1) by decide +kernel) rfl) rfl sb_nil)))
  (ms_cons
  (sb_cons (pc2 := 62) (sx_iload_n (show decode cX4_named 61 = .ok (.iload_n 2, 1) by decide +kernel) rfl) rfl
    (sb_cons (pc2 := 63) (sx_reti (show decode cX4_named 62 = .ok (.ireturn, 1) by decide +kernel) rfl) rfl sb_nil))
  ms_nil)))))))
def kX4_ofOne (X : px_X) : px_B := [(0, [], [px_iload 0, px_push (.int 2), px_if2 (fun x y => decide (¬ x = y)) 10, px_iload 1, (px_i1 fun x => -x), px_goto 22], 10),
  (10, [false, true], [px_iload 1, px_if1 (fun x => decide (¬ x = 0)) 18, px_push (.int 1), px_goto 19], 18),
  (18, [false, false], [px_push (.int 0)], 19),
  (19, [false, false], [px_cS X 47 1], 22),
  (22, [false, false], [px_reti], 23)]
set_option maxRecDepth 100000 in
set_option maxHeartbeats 8000000 in
theorem sX4_ofOne (d : Nat) (X : px_X) : px_MS d X YX4_ofOne (kX4_ofOne X) :=
  (ms_cons
  (sb_cons (pc2 := 1) (sx_iload_n (show decode cX4_ofOne 0 = .ok (.iload_n 0, 1) by decide +kernel) rfl) rfl
    (sb_cons (pc2 := 2) (sx_iconst (show decode cX4_ofOne 1 = .ok (.iconst 2, 1) by decide +kernel) (by decide)) rfl
    (sb_cons (pc2 := 5) (sx_icmp_ne (show decode cX4_ofOne 2 = .ok (.if_icmp .ne 8, 3) by decide +kernel) (by decide)) rfl
    (sb_cons (pc2 := 6) (sx_iload_n (show decode cX4_ofOne 5 = .ok (.iload_n 1, 1) by decide +kernel) rfl) rfl
    (sb_cons (pc2 := 7) (sx_ineg (show decode cX4_ofOne 6 = .ok (.ineg, 1) by decide +kernel)) rfl
    (sb_cons (pc2 := 10) (px_snd_goto (show decode cX4_ofOne 7 = .ok (.goto 15, 3) by decide +kernel) (by decide)) rfl sb_nil))))))
  (ms_cons
  (sb_cons (pc2 := 11) (sx_iload_n (show decode cX4_ofOne 10 = .ok (.iload_n 1, 1) by decide +kernel) rfl) rfl
    (sb_cons (pc2 := 14) (sx_if_ne (show decode cX4_ofOne 11 = .ok (.ifCond .ne 7, 3) by decide +kernel) (by decide)) rfl
    (sb_cons (pc2 := 15) (sx_iconst (show decode cX4_ofOne 14 = .ok (.iconst 1, 1) by decide +kernel) (by decide)) rfl
    (sb_cons (pc2 := 18) (px_snd_goto (show decode cX4_ofOne 15 = .ok (.goto 4, 3) by decide +kernel) (by decide)) rfl sb_nil))))
  (ms_cons
  (sb_cons (pc2 := 19) (sx_iconst (show decode cX4_ofOne 18 = .ok (.iconst 0, 1) by decide +kernel) (by decide)) rfl sb_nil)
  (ms_cons
  (sb_cons (pc2 := 22) (sx_cS (Y' := YX4_truth) rfl (show decode cX4_ofOne 19 = .ok (.invokestatic 64, 3) by decide +kernel) rfl (px_w3 wd_165 wd_166 wd_143) wd_164 ⟨by decide, by decide, by decide +kernel⟩ (by decide)) rfl sb_nil)
  (ms_cons
  (sb_cons (pc2 := 23) (sx_reti (show decode cX4_ofOne 22 = .ok (.ireturn, 1) by decide +kernel) rfl) rfl sb_nil)
  ms_nil)))))
def kX4_ofTwo (X : px_X) : px_B := [(0, [], [px_iload 0, px_sw [(4, 40), (5, 44), (6, 48), (7, 52), (8, 66), (9, 80)] 97], 40),
  (40, [false, true, true], [px_iload 1, px_iload 2, (px_i2 fun x y => x * y), px_reti], 44),
  (44, [false, true, true], [px_iload 1, px_iload 2, (px_i2 fun x y => x + y), px_reti], 48),
  (48, [false, true, true], [px_iload 1, px_iload 2, (px_i2 fun x y => x - y), px_reti], 52),
  (52, [false, true, true], [px_iload 1, px_iload 2, px_if2 (fun x y => decide (y ≤ x)) 61, px_push (.int 1), px_goto 62], 61),
  (61, [false, false, false], [px_push (.int 0)], 62),
  (62, [false, false, false], [px_cS X 47 1, px_reti], 66),
  (66, [false, true, true], [px_iload 1, px_iload 2, px_if2 (fun x y => decide (¬ x = y)) 75, px_push (.int 1), px_goto 76], 75),
  (75, [false, false, false], [px_push (.int 0)], 76),
  (76, [false, false, false], [px_cS X 47 1, px_reti], 80),
  (80, [false, true, true], [px_iload 1, px_if1 (fun x => decide (x = 0)) 92, px_iload 2, px_if1 (fun x => decide (x = 0)) 92, px_push (.int 1), px_goto 93], 92),
  (92, [false, false, false], [px_push (.int 0)], 93),
  (93, [false, false, false], [px_cS X 47 1, px_reti], 97),
  (97, [false, true, true], [px_iload 1, px_if1 (fun x => decide (¬ x = 0)) 105, px_iload 2, px_if1 (fun x => decide (x = 0)) 109], 105),
  (105, [false, false, false], [px_push (.int 1), px_goto 110], 109),
  (109, [false, false, false], [px_push (.int 0)], 110),
  (110, [false, false, false], [px_cS X 47 1, px_reti], 114)]
set_option maxRecDepth 100000 in
set_option maxHeartbeats 8000000 in
theorem sX4_ofTwo (d : Nat) (X : px_X) : px_MS d X YX4_ofTwo (kX4_ofTwo X) :=
  (ms_cons
  (sb_cons (pc2 := 1) (sx_iload_n (show decode cX4_ofTwo 0 = .ok (.iload_n 0, 1) by decide +kernel) rfl) rfl
    (sb_cons (pc2 := 40) (sx_tsw (show decode cX4_ofTwo 1 = .ok (.tableswitch 96 4 9 #[39, 43, 47, 51, 65, 79], 39) by decide +kernel) (by decide) (by decide +kernel) (by decide +kernel)) rfl sb_nil))
  (ms_cons
  (sb_cons (pc2 := 41) (sx_iload_n (show decode cX4_ofTwo 40 = .ok (.iload_n 1, 1) by decide +kernel) rfl) rfl
    (sb_cons (pc2 := 42) (sx_iload_n (show decode cX4_ofTwo 41 = .ok (.iload_n 2, 1) by decide +kernel) rfl) rfl
    (sb_cons (pc2 := 43) (sx_imul (show decode cX4_ofTwo 42 = .ok (.imul, 1) by decide +kernel)) rfl
    (sb_cons (pc2 := 44) (sx_reti (show decode cX4_ofTwo 43 = .ok (.ireturn, 1) by decide +kernel) rfl) rfl sb_nil))))
  (ms_cons
  (sb_cons (pc2 := 45) (sx_iload_n (show decode cX4_ofTwo 44 = .ok (.iload_n 1, 1) by decide +kernel) rfl) rfl
    (sb_cons (pc2 := 46) (sx_iload_n (show decode cX4_ofTwo 45 = .ok (.iload_n 2, 1) by decide +kernel) rfl) rfl
    (sb_cons (pc2 := 47) (sx_iadd (show decode cX4_ofTwo 46 = .ok (.iadd, 1) by decide +kernel)) rfl
    (sb_cons (pc2 := 48) (sx_reti (show decode cX4_ofTwo 47 = .ok (.ireturn, 1) by decide +kernel) rfl) rfl sb_nil))))
  (ms_cons
  (sb_cons (pc2 := 49) (sx_iload_n (show decode cX4_ofTwo 48 = .ok (.iload_n 1, 1) by decide +kernel) rfl) rfl
    (sb_cons (pc2 := 50) (sx_iload_n (show decode cX4_ofTwo 49 = .ok (.iload_n 2, 1) by decide +kernel) rfl) rfl
    (sb_cons (pc2 := 51) (sx_isub (show decode cX4_ofTwo 50 = .ok (.isub, 1) by decide +kernel)) rfl
    (sb_cons (pc2 := 52) (sx_reti (show decode cX4_ofTwo 51 = .ok (.ireturn, 1) by decide +kernel) rfl) rfl sb_nil))))
  (ms_cons
  (sb_cons (pc2 := 53) (sx_iload_n (show decode cX4_ofTwo 52 = .ok (.iload_n 1, 1) by decide +kernel) rfl) rfl
    (sb_cons (pc2 := 54) (sx_iload_n (show decode cX4_ofTwo 53 = .ok (.iload_n 2, 1) by decide +kernel) rfl) rfl
    (sb_cons (pc2 := 57) (sx_icmp_ge (show decode cX4_ofTwo 54 = .ok (.if_icmp .ge 7, 3) by decide +kernel) (by decide)) rfl
    (sb_cons (pc2 := 58) (sx_iconst (show decode cX4_ofTwo 57 = .ok (.iconst 1, 1) by decide +kernel) (by decide)) rfl
    (sb_cons (pc2 := 61) (px_snd_goto (show decode cX4_ofTwo 58 = .ok (.goto 4, 3) by decide +kernel) (by decide)) rfl sb_nil)))))
  (ms_cons
  (sb_cons (pc2 := 62) (sx_iconst (show decode cX4_ofTwo 61 = .ok (.iconst 0, 1) by decide +kernel) (by decide)) rfl sb_nil)
  (ms_cons
  (sb_cons (pc2 := 65) (sx_cS (Y' := YX4_truth) rfl (show decode cX4_ofTwo 62 = .ok (.invokestatic 64, 3) by decide +kernel) rfl (px_w3 wd_165 wd_166 wd_143) wd_164 ⟨by decide, by decide, by decide +kernel⟩ (by decide)) rfl
    (sb_cons (pc2 := 66) (sx_reti (show decode cX4_ofTwo 65 = .ok (.ireturn, 1) by decide +kernel) rfl) rfl sb_nil))
  (ms_cons
  (sb_cons (pc2 := 67) (sx_iload_n (show decode cX4_ofTwo 66 = .ok (.iload_n 1, 1) by decide +kernel) rfl) rfl
    (sb_cons (pc2 := 68) (sx_iload_n (show decode cX4_ofTwo 67 = .ok (.iload_n 2, 1) by decide +kernel) rfl) rfl
    (sb_cons (pc2 := 71) (sx_icmp_ne (show decode cX4_ofTwo 68 = .ok (.if_icmp .ne 7, 3) by decide +kernel) (by decide)) rfl
    (sb_cons (pc2 := 72) (sx_iconst (show decode cX4_ofTwo 71 = .ok (.iconst 1, 1) by decide +kernel) (by decide)) rfl
    (sb_cons (pc2 := 75) (px_snd_goto (show decode cX4_ofTwo 72 = .ok (.goto 4, 3) by decide +kernel) (by decide)) rfl sb_nil)))))
  (ms_cons
  (sb_cons (pc2 := 76) (sx_iconst (show decode cX4_ofTwo 75 = .ok (.iconst 0, 1) by decide +kernel) (by decide)) rfl sb_nil)
  (ms_cons
  (sb_cons (pc2 := 79) (sx_cS (Y' := YX4_truth) rfl (show decode cX4_ofTwo 76 = .ok (.invokestatic 64, 3) by decide +kernel) rfl (px_w3 wd_165 wd_166 wd_143) wd_164 ⟨by decide, by decide, by decide +kernel⟩ (by decide)) rfl
    (sb_cons (pc2 := 80) (sx_reti (show decode cX4_ofTwo 79 = .ok (.ireturn, 1) by decide +kernel) rfl) rfl sb_nil))
  (ms_cons
  (sb_cons (pc2 := 81) (sx_iload_n (show decode cX4_ofTwo 80 = .ok (.iload_n 1, 1) by decide +kernel) rfl) rfl
    (sb_cons (pc2 := 84) (sx_if_eq (show decode cX4_ofTwo 81 = .ok (.ifCond .eq 11, 3) by decide +kernel) (by decide)) rfl
    (sb_cons (pc2 := 85) (sx_iload_n (show decode cX4_ofTwo 84 = .ok (.iload_n 2, 1) by decide +kernel) rfl) rfl
    (sb_cons (pc2 := 88) (sx_if_eq (show decode cX4_ofTwo 85 = .ok (.ifCond .eq 7, 3) by decide +kernel) (by decide)) rfl
    (sb_cons (pc2 := 89) (sx_iconst (show decode cX4_ofTwo 88 = .ok (.iconst 1, 1) by decide +kernel) (by decide)) rfl
    (sb_cons (pc2 := 92) (px_snd_goto (show decode cX4_ofTwo 89 = .ok (.goto 4, 3) by decide +kernel) (by decide)) rfl sb_nil))))))
  (ms_cons
  (sb_cons (pc2 := 93) (sx_iconst (show decode cX4_ofTwo 92 = .ok (.iconst 0, 1) by decide +kernel) (by decide)) rfl sb_nil)
  (ms_cons
  (sb_cons (pc2 := 96) (sx_cS (Y' := YX4_truth) rfl (show decode cX4_ofTwo 93 = .ok (.invokestatic 64, 3) by decide +kernel) rfl (px_w3 wd_165 wd_166 wd_143) wd_164 ⟨by decide, by decide, by decide +kernel⟩ (by decide)) rfl
    (sb_cons (pc2 := 97) (sx_reti (show decode cX4_ofTwo 96 = .ok (.ireturn, 1) by decide +kernel) rfl) rfl sb_nil))
  (ms_cons
  (sb_cons (pc2 := 98) (sx_iload_n (show decode cX4_ofTwo 97 = .ok (.iload_n 1, 1) by decide +kernel) rfl) rfl
    (sb_cons (pc2 := 101) (sx_if_ne (show decode cX4_ofTwo 98 = .ok (.ifCond .ne 7, 3) by decide +kernel) (by decide)) rfl
    (sb_cons (pc2 := 102) (sx_iload_n (show decode cX4_ofTwo 101 = .ok (.iload_n 2, 1) by decide +kernel) rfl) rfl
    (sb_cons (pc2 := 105) (sx_if_eq (show decode cX4_ofTwo 102 = .ok (.ifCond .eq 7, 3) by decide +kernel) (by decide)) rfl sb_nil))))
  (ms_cons
  (sb_cons (pc2 := 106) (sx_iconst (show decode cX4_ofTwo 105 = .ok (.iconst 1, 1) by decide +kernel) (by decide)) rfl
    (sb_cons (pc2 := 109) (px_snd_goto (show decode cX4_ofTwo 106 = .ok (.goto 4, 3) by decide +kernel) (by decide)) rfl sb_nil))
  (ms_cons
  (sb_cons (pc2 := 110) (sx_iconst (show decode cX4_ofTwo 109 = .ok (.iconst 0, 1) by decide +kernel) (by decide)) rfl sb_nil)
  (ms_cons
  (sb_cons (pc2 := 113) (sx_cS (Y' := YX4_truth) rfl (show decode cX4_ofTwo 110 = .ok (.invokestatic 64, 3) by decide +kernel) rfl (px_w3 wd_165 wd_166 wd_143) wd_164 ⟨by decide, by decide, by decide +kernel⟩ (by decide)) rfl
    (sb_cons (pc2 := 114) (sx_reti (show decode cX4_ofTwo 113 = .ok (.ireturn, 1) by decide +kernel) rfl) rfl sb_nil))
  ms_nil)))))))))))))))))
def kX4_truth (X : px_X) : px_B := [(0, [], [px_iload 0, px_if1 (fun x => decide (x = 0)) 8, px_push (.int 1), px_goto 9], 8),
  (8, [false], [px_push (.int 0)], 9),
  (9, [false], [px_reti], 10)]
set_option maxRecDepth 100000 in
set_option maxHeartbeats 8000000 in
theorem sX4_truth (d : Nat) (X : px_X) : px_MS d X YX4_truth (kX4_truth X) :=
  (ms_cons
  (sb_cons (pc2 := 1) (sx_iload_n (show decode cX4_truth 0 = .ok (.iload_n 0, 1) by decide +kernel) rfl) rfl
    (sb_cons (pc2 := 4) (sx_if_eq (show decode cX4_truth 1 = .ok (.ifCond .eq 7, 3) by decide +kernel) (by decide)) rfl
    (sb_cons (pc2 := 5) (sx_iconst (show decode cX4_truth 4 = .ok (.iconst 1, 1) by decide +kernel) (by decide)) rfl
    (sb_cons (pc2 := 8) (px_snd_goto (show decode cX4_truth 5 = .ok (.goto 4, 3) by decide +kernel) (by decide)) rfl sb_nil))))
  (ms_cons
  (sb_cons (pc2 := 9) (sx_iconst (show decode cX4_truth 8 = .ok (.iconst 0, 1) by decide +kernel) (by decide)) rfl sb_nil)
  (ms_cons
  (sb_cons (pc2 := 10) (sx_reti (show decode cX4_truth 9 = .ok (.ireturn, 1) by decide +kernel) rfl) rfl sb_nil)
  ms_nil)))
