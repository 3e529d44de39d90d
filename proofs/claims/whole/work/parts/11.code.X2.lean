/-! the code of methods as pure instructions (written by wip/whole/gen.py) -/
def kX2_init (X : px_X) : px_B := [(0, [], [px_aload 0, px_pop, px_aload 0, px_push (.int 0), px_puti 2 4, px_aload 0, px_push (.int 8), px_newi 0, px_putr 2 5, px_aload 0, px_push (.int 1), px_putz 2 6, px_aload 0, px_push (.int (-1)), px_puti 2 7, px_aload 0, px_push (.int (-1)), px_puti 2 8, px_aload 0, px_iload 1, px_puti 2 0, px_aload 0, px_iload 2, px_puti 2 1, px_aload 0, px_iload 3, px_puti 2 2, px_aload 0, px_iload 4, px_puti 2 3, px_retv], 54)]
set_option maxRecDepth 100000 in
set_option maxHeartbeats 8000000 in
theorem sX2_init (d : Nat) (X : px_X) : px_MS d X YX2_init (kX2_init X) :=
  (ms_cons
  (sb_cons (pc2 := 1) (sx_aload_n (show decode cX2_init 0 = .ok (.aload_n 0, 1) by decide +kernel) rfl) rfl
    (sb_cons (pc2 := 4) (sx_pop (show decode cX2_init 1 = .ok (.invokespecial 3, 3) by decide +kernel) wd_85 wd_1 wd_2) rfl
    (sb_cons (pc2 := 5) (sx_aload_n (show decode cX2_init 4 = .ok (.aload_n 0, 1) by decide +kernel) rfl) rfl
    (sb_cons (pc2 := 6) (sx_iconst (show decode cX2_init 5 = .ok (.iconst 0, 1) by decide +kernel) (by decide)) rfl
    (sb_cons (pc2 := 9) (sx_puti (show decode cX2_init 6 = .ok (.putfield 9, 3) by decide +kernel) rfl iX2 tyX2_ok nmX2 (by decide) wd_86 rfl (Or.inl rfl)) rfl
    (sb_cons (pc2 := 10) (sx_aload_n (show decode cX2_init 9 = .ok (.aload_n 0, 1) by decide +kernel) rfl) rfl
    (sb_cons (pc2 := 12) (sx_bipush (show decode cX2_init 10 = .ok (.bipush 8, 2) by decide +kernel) (by decide)) rfl
    (sb_cons (pc2 := 14) (sx_newi (t := 0) (show decode cX2_init 12 = .ok (.newarray .int, 2) by decide +kernel) rfl (fun _ => rfl) (Or.inl rfl) wd_17) rfl
    (sb_cons (pc2 := 17) (sx_putr (show decode cX2_init 14 = .ok (.putfield 15, 3) by decide +kernel) rfl iX2 tyX2_ok nmX2 (by decide) wd_87 (Or.inr ⟨_, rfl⟩) (Or.inr ⟨rfl, rfl, rfl⟩)) rfl
    (sb_cons (pc2 := 18) (sx_aload_n (show decode cX2_init 17 = .ok (.aload_n 0, 1) by decide +kernel) rfl) rfl
    (sb_cons (pc2 := 19) (sx_iconst (show decode cX2_init 18 = .ok (.iconst 1, 1) by decide +kernel) (by decide)) rfl
    (sb_cons (pc2 := 22) (sx_putz (show decode cX2_init 19 = .ok (.putfield 19, 3) by decide +kernel) rfl iX2 tyX2_ok nmX2 (by decide) wd_88 rfl rfl) rfl
    (sb_cons (pc2 := 23) (sx_aload_n (show decode cX2_init 22 = .ok (.aload_n 0, 1) by decide +kernel) rfl) rfl
    (sb_cons (pc2 := 24) (sx_iconst (show decode cX2_init 23 = .ok (.iconst (-1), 1) by decide +kernel) (by decide)) rfl
    (sb_cons (pc2 := 27) (sx_puti (show decode cX2_init 24 = .ok (.putfield 23, 3) by decide +kernel) rfl iX2 tyX2_ok nmX2 (by decide) wd_89 rfl (Or.inl rfl)) rfl
    (sb_cons (pc2 := 28) (sx_aload_n (show decode cX2_init 27 = .ok (.aload_n 0, 1) by decide +kernel) rfl) rfl
    (sb_cons (pc2 := 29) (sx_iconst (show decode cX2_init 28 = .ok (.iconst (-1), 1) by decide +kernel) (by decide)) rfl
    (sb_cons (pc2 := 32) (sx_puti (show decode cX2_init 29 = .ok (.putfield 26, 3) by decide +kernel) rfl iX2 tyX2_ok nmX2 (by decide) wd_90 rfl (Or.inl rfl)) rfl
    (sb_cons (pc2 := 33) (sx_aload_n (show decode cX2_init 32 = .ok (.aload_n 0, 1) by decide +kernel) rfl) rfl
    (sb_cons (pc2 := 34) (sx_iload_n (show decode cX2_init 33 = .ok (.iload_n 1, 1) by decide +kernel) rfl) rfl
    (sb_cons (pc2 := 37) (sx_puti (show decode cX2_init 34 = .ok (.putfield 29, 3) by decide +kernel) rfl iX2 tyX2_ok nmX2 (by decide) wd_91 rfl (Or.inr ⟨rfl, rfl, rfl⟩)) rfl
    (sb_cons (pc2 := 38) (sx_aload_n (show decode cX2_init 37 = .ok (.aload_n 0, 1) by decide +kernel) rfl) rfl
    (sb_cons (pc2 := 39) (sx_iload_n (show decode cX2_init 38 = .ok (.iload_n 2, 1) by decide +kernel) rfl) rfl
    (sb_cons (pc2 := 42) (sx_puti (show decode cX2_init 39 = .ok (.putfield 32, 3) by decide +kernel) rfl iX2 tyX2_ok nmX2 (by decide) wd_92 rfl (Or.inr ⟨rfl, rfl, rfl⟩)) rfl
    (sb_cons (pc2 := 43) (sx_aload_n (show decode cX2_init 42 = .ok (.aload_n 0, 1) by decide +kernel) rfl) rfl
    (sb_cons (pc2 := 44) (sx_iload_n (show decode cX2_init 43 = .ok (.iload_n 3, 1) by decide +kernel) rfl) rfl
    (sb_cons (pc2 := 47) (sx_puti (show decode cX2_init 44 = .ok (.putfield 35, 3) by decide +kernel) rfl iX2 tyX2_ok nmX2 (by decide) wd_93 rfl (Or.inr ⟨rfl, rfl, rfl⟩)) rfl
    (sb_cons (pc2 := 48) (sx_aload_n (show decode cX2_init 47 = .ok (.aload_n 0, 1) by decide +kernel) rfl) rfl
    (sb_cons (pc2 := 50) (sx_iload (show decode cX2_init 48 = .ok (.iload 4, 2) by decide +kernel)) rfl
    (sb_cons (pc2 := 53) (sx_puti (show decode cX2_init 50 = .ok (.putfield 38, 3) by decide +kernel) rfl iX2 tyX2_ok nmX2 (by decide) wd_94 rfl (Or.inr ⟨rfl, rfl, rfl⟩)) rfl
    (sb_cons (pc2 := 54) (sx_retv (show decode cX2_init 53 = .ok (.return_, 1) by decide +kernel) rfl) rfl sb_nil)))))))))))))))))))))))))))))))
  ms_nil)
def kX2_x (X : px_X) : px_B := [(0, [], [px_aload 0, px_getf 2 1, px_push (.int 10), (px_i2d fun x y => x - x / y * y), px_reti], 8)]
set_option maxRecDepth 100000 in
set_option maxHeartbeats 8000000 in
theorem sX2_x (d : Nat) (X : px_X) : px_MS d X YX2_x (kX2_x X) :=
  (ms_cons
  (sb_cons (pc2 := 1) (sx_aload_n (show decode cX2_x 0 = .ok (.aload_n 0, 1) by decide +kernel) rfl) rfl
    (sb_cons (pc2 := 4) (sx_getf (show decode cX2_x 1 = .ok (.getfield 32, 3) by decide +kernel) rfl iX2 (by decide) wd_92) rfl
    (sb_cons (pc2 := 6) (sx_bipush (show decode cX2_x 4 = .ok (.bipush 10, 2) by decide +kernel) (by decide)) rfl
    (sb_cons (pc2 := 7) (sx_irem (show decode cX2_x 6 = .ok (.irem, 1) by decide +kernel)) rfl
    (sb_cons (pc2 := 8) (sx_reti (show decode cX2_x 7 = .ok (.ireturn, 1) by decide +kernel) rfl) rfl sb_nil)))))
  ms_nil)
def kX2_y (X : px_X) : px_B := [(0, [], [px_aload 0, px_getf 2 1, px_push (.int 10), (px_i2d fun x y => x / y), px_reti], 8)]
set_option maxRecDepth 100000 in
set_option maxHeartbeats 8000000 in
theorem sX2_y (d : Nat) (X : px_X) : px_MS d X YX2_y (kX2_y X) :=
  (ms_cons
  (sb_cons (pc2 := 1) (sx_aload_n (show decode cX2_y 0 = .ok (.aload_n 0, 1) by decide +kernel) rfl) rfl
    (sb_cons (pc2 := 4) (sx_getf (show decode cX2_y 1 = .ok (.getfield 32, 3) by decide +kernel) rfl iX2 (by decide) wd_92) rfl
    (sb_cons (pc2 := 6) (sx_bipush (show decode cX2_y 4 = .ok (.bipush 10, 2) by decide +kernel) (by decide)) rfl
    (sb_cons (pc2 := 7) (sx_idiv (show decode cX2_y 6 = .ok (.idiv, 1) by decide +kernel)) rfl
    (sb_cons (pc2 := 8) (sx_reti (show decode cX2_y 7 = .ok (.ireturn, 1) by decide +kernel) rfl) rfl sb_nil)))))
  ms_nil)
def kX2_isUnder (X : px_X) : px_B := [(0, [], [px_aload 0, px_getf 2 0, px_istore 2, px_push (.int 0), px_istore 3], 7),
  (7, [false, true, true, true], [px_iload 3, px_push (.int 6), px_if2 (fun x y => decide (y ≤ x)) 42, px_iload 2, px_if1 (fun x => decide (x < 0)) 42, px_iload 2, px_push (.int 6), px_if2 (fun x y => decide (y ≤ x)) 42, px_iload 2, px_iload 1, px_if2 (fun x y => decide (¬ x = y)) 30, px_push (.int 1), px_retz], 30),
  (30, [false, true, true, true], [px_push (.ref 1), px_iload 2, px_iald 0, px_istore 2, px_iinc 3 1, px_goto 7], 42),
  (42, [false, false, false, false], [px_push (.int 0), px_retz], 44)]
set_option maxRecDepth 100000 in
set_option maxHeartbeats 8000000 in
theorem sX2_isUnder (d : Nat) (X : px_X) : px_MS d X YX2_isUnder (kX2_isUnder X) :=
  (ms_cons
  (sb_cons (pc2 := 1) (sx_aload_n (show decode cX2_isUnder 0 = .ok (.aload_n 0, 1) by decide +kernel) rfl) rfl
    (sb_cons (pc2 := 4) (sx_getf (show decode cX2_isUnder 1 = .ok (.getfield 29, 3) by decide +kernel) rfl iX2 (by decide) wd_91) rfl
    (sb_cons (pc2 := 5) (sx_istore_n (show decode cX2_isUnder 4 = .ok (.istore_n 2, 1) by decide +kernel) rfl) rfl
    (sb_cons (pc2 := 6) (sx_iconst (show decode cX2_isUnder 5 = .ok (.iconst 0, 1) by decide +kernel) (by decide)) rfl
    (sb_cons (pc2 := 7) (sx_istore_n (show decode cX2_isUnder 6 = .ok (.istore_n 3, 1) by decide +kernel) rfl) rfl sb_nil)))))
  (ms_cons
  (sb_cons (pc2 := 8) (sx_iload_n (show decode cX2_isUnder 7 = .ok (.iload_n 3, 1) by decide +kernel) rfl) rfl
    (sb_cons (pc2 := 10) (sx_bipush (show decode cX2_isUnder 8 = .ok (.bipush 6, 2) by decide +kernel) (by decide)) rfl
    (sb_cons (pc2 := 13) (sx_icmp_ge (show decode cX2_isUnder 10 = .ok (.if_icmp .ge 32, 3) by decide +kernel) (by decide)) rfl
    (sb_cons (pc2 := 14) (sx_iload_n (show decode cX2_isUnder 13 = .ok (.iload_n 2, 1) by decide +kernel) rfl) rfl
    (sb_cons (pc2 := 17) (sx_if_lt (show decode cX2_isUnder 14 = .ok (.ifCond .lt 28, 3) by decide +kernel) (by decide)) rfl
    (sb_cons (pc2 := 18) (sx_iload_n (show decode cX2_isUnder 17 = .ok (.iload_n 2, 1) by decide +kernel) rfl) rfl
    (sb_cons (pc2 := 20) (sx_bipush (show decode cX2_isUnder 18 = .ok (.bipush 6, 2) by decide +kernel) (by decide)) rfl
    (sb_cons (pc2 := 23) (sx_icmp_ge (show decode cX2_isUnder 20 = .ok (.if_icmp .ge 22, 3) by decide +kernel) (by decide)) rfl
    (sb_cons (pc2 := 24) (sx_iload_n (show decode cX2_isUnder 23 = .ok (.iload_n 2, 1) by decide +kernel) rfl) rfl
    (sb_cons (pc2 := 25) (sx_iload_n (show decode cX2_isUnder 24 = .ok (.iload_n 1, 1) by decide +kernel) rfl) rfl
    (sb_cons (pc2 := 28) (sx_icmp_ne (show decode cX2_isUnder 25 = .ok (.if_icmp .ne 5, 3) by decide +kernel) (by decide)) rfl
    (sb_cons (pc2 := 29) (sx_iconst (show decode cX2_isUnder 28 = .ok (.iconst 1, 1) by decide +kernel) (by decide)) rfl
    (sb_cons (pc2 := 30) (sx_retz (show decode cX2_isUnder 29 = .ok (.ireturn, 1) by decide +kernel) rfl) rfl sb_nil)))))))))))))
  (ms_cons
  (sb_cons (pc2 := 33) (sx_kindAbove (show decode cX2_isUnder 30 = .ok (.getstatic 41, 3) by decide +kernel) wd_95) rfl
    (sb_cons (pc2 := 34) (sx_iload_n (show decode cX2_isUnder 33 = .ok (.iload_n 2, 1) by decide +kernel) rfl) rfl
    (sb_cons (pc2 := 35) (sx_iald (show decode cX2_isUnder 34 = .ok (.iaload, 1) by decide +kernel)) rfl
    (sb_cons (pc2 := 36) (sx_istore_n (show decode cX2_isUnder 35 = .ok (.istore_n 2, 1) by decide +kernel) rfl) rfl
    (sb_cons (pc2 := 39) (sx_iinc (show decode cX2_isUnder 36 = .ok (.iinc 3 1, 3) by decide +kernel) (by decide)) rfl
    (sb_cons (pc2 := 42) (px_snd_goto (show decode cX2_isUnder 39 = .ok (.goto (-32), 3) by decide +kernel) (by decide)) rfl sb_nil))))))
  (ms_cons
  (sb_cons (pc2 := 43) (sx_iconst (show decode cX2_isUnder 42 = .ok (.iconst 0, 1) by decide +kernel) (by decide)) rfl
    (sb_cons (pc2 := 44) (sx_retz (show decode cX2_isUnder 43 = .ok (.ireturn, 1) by decide +kernel) rfl) rfl sb_nil))
  ms_nil))))
def kX2_addHole (X : px_X) : px_B := [(0, [], [px_push (.int 0), px_istore 2], 2),
  (2, [true, true, true], [px_iload 2, px_aload 0, px_getf 2 4, px_if2 (fun x y => decide (y ≤ x)) 29, px_aload 0, px_getf 2 5, px_iload 2, px_iald 0, px_iload 1, px_if2 (fun x y => decide (¬ x = y)) 23, px_push (.int (-3)), px_reti], 23),
  (23, [true, true, true], [px_iinc 2 1, px_goto 2], 29),
  (29, [true, true, false], [px_aload 0, px_getf 2 4, px_push (.int 8), px_if2 (fun x y => decide (x < y)) 41, px_push (.int (-4)), px_reti], 41),
  (41, [true, true, false], [px_aload 0, px_getf 2 5, px_aload 0, px_getf 2 4, px_iload 1, px_iast 0, px_aload 0, px_dup, px_getf 2 4, px_push (.int 1), (px_i2 fun x y => x + y), px_puti 2 4, px_aload 0, px_getf 2 4, px_reti], 66)]
set_option maxRecDepth 100000 in
set_option maxHeartbeats 8000000 in
theorem sX2_addHole (d : Nat) (X : px_X) : px_MS d X YX2_addHole (kX2_addHole X) :=
  (ms_cons
  (sb_cons (pc2 := 1) (sx_iconst (show decode cX2_addHole 0 = .ok (.iconst 0, 1) by decide +kernel) (by decide)) rfl
    (sb_cons (pc2 := 2) (sx_istore_n (show decode cX2_addHole 1 = .ok (.istore_n 2, 1) by decide +kernel) rfl) rfl sb_nil))
  (ms_cons
  (sb_cons (pc2 := 3) (sx_iload_n (show decode cX2_addHole 2 = .ok (.iload_n 2, 1) by decide +kernel) rfl) rfl
    (sb_cons (pc2 := 4) (sx_aload_n (show decode cX2_addHole 3 = .ok (.aload_n 0, 1) by decide +kernel) rfl) rfl
    (sb_cons (pc2 := 7) (sx_getf (show decode cX2_addHole 4 = .ok (.getfield 9, 3) by decide +kernel) rfl iX2 (by decide) wd_86) rfl
    (sb_cons (pc2 := 10) (sx_icmp_ge (show decode cX2_addHole 7 = .ok (.if_icmp .ge 22, 3) by decide +kernel) (by decide)) rfl
    (sb_cons (pc2 := 11) (sx_aload_n (show decode cX2_addHole 10 = .ok (.aload_n 0, 1) by decide +kernel) rfl) rfl
    (sb_cons (pc2 := 14) (sx_getf (show decode cX2_addHole 11 = .ok (.getfield 15, 3) by decide +kernel) rfl iX2 (by decide) wd_87) rfl
    (sb_cons (pc2 := 15) (sx_iload_n (show decode cX2_addHole 14 = .ok (.iload_n 2, 1) by decide +kernel) rfl) rfl
    (sb_cons (pc2 := 16) (sx_iald (show decode cX2_addHole 15 = .ok (.iaload, 1) by decide +kernel)) rfl
    (sb_cons (pc2 := 17) (sx_iload_n (show decode cX2_addHole 16 = .ok (.iload_n 1, 1) by decide +kernel) rfl) rfl
    (sb_cons (pc2 := 20) (sx_icmp_ne (show decode cX2_addHole 17 = .ok (.if_icmp .ne 6, 3) by decide +kernel) (by decide)) rfl
    (sb_cons (pc2 := 22) (sx_bipush (show decode cX2_addHole 20 = .ok (.bipush (-3), 2) by decide +kernel) (by decide)) rfl
    (sb_cons (pc2 := 23) (sx_reti (show decode cX2_addHole 22 = .ok (.ireturn, 1) by decide +kernel) rfl) rfl sb_nil))))))))))))
  (ms_cons
  (sb_cons (pc2 := 26) (sx_iinc (show decode cX2_addHole 23 = .ok (.iinc 2 1, 3) by decide +kernel) (by decide)) rfl
    (sb_cons (pc2 := 29) (px_snd_goto (show decode cX2_addHole 26 = .ok (.goto (-24), 3) by decide +kernel) (by decide)) rfl sb_nil))
  (ms_cons
  (sb_cons (pc2 := 30) (sx_aload_n (show decode cX2_addHole 29 = .ok (.aload_n 0, 1) by decide +kernel) rfl) rfl
    (sb_cons (pc2 := 33) (sx_getf (show decode cX2_addHole 30 = .ok (.getfield 9, 3) by decide +kernel) rfl iX2 (by decide) wd_86) rfl
    (sb_cons (pc2 := 35) (sx_bipush (show decode cX2_addHole 33 = .ok (.bipush 8, 2) by decide +kernel) (by decide)) rfl
    (sb_cons (pc2 := 38) (sx_icmp_lt (show decode cX2_addHole 35 = .ok (.if_icmp .lt 6, 3) by decide +kernel) (by decide)) rfl
    (sb_cons (pc2 := 40) (sx_bipush (show decode cX2_addHole 38 = .ok (.bipush (-4), 2) by decide +kernel) (by decide)) rfl
    (sb_cons (pc2 := 41) (sx_reti (show decode cX2_addHole 40 = .ok (.ireturn, 1) by decide +kernel) rfl) rfl sb_nil))))))
  (ms_cons
  (sb_cons (pc2 := 42) (sx_aload_n (show decode cX2_addHole 41 = .ok (.aload_n 0, 1) by decide +kernel) rfl) rfl
    (sb_cons (pc2 := 45) (sx_getf (show decode cX2_addHole 42 = .ok (.getfield 15, 3) by decide +kernel) rfl iX2 (by decide) wd_87) rfl
    (sb_cons (pc2 := 46) (sx_aload_n (show decode cX2_addHole 45 = .ok (.aload_n 0, 1) by decide +kernel) rfl) rfl
    (sb_cons (pc2 := 49) (sx_getf (show decode cX2_addHole 46 = .ok (.getfield 9, 3) by decide +kernel) rfl iX2 (by decide) wd_86) rfl
    (sb_cons (pc2 := 50) (sx_iload_n (show decode cX2_addHole 49 = .ok (.iload_n 1, 1) by decide +kernel) rfl) rfl
    (sb_cons (pc2 := 51) (sx_iast (show decode cX2_addHole 50 = .ok (.iastore, 1) by decide +kernel)) rfl
    (sb_cons (pc2 := 52) (sx_aload_n (show decode cX2_addHole 51 = .ok (.aload_n 0, 1) by decide +kernel) rfl) rfl
    (sb_cons (pc2 := 53) (sx_dup (show decode cX2_addHole 52 = .ok (.dup, 1) by decide +kernel)) rfl
    (sb_cons (pc2 := 56) (sx_getf (show decode cX2_addHole 53 = .ok (.getfield 9, 3) by decide +kernel) rfl iX2 (by decide) wd_86) rfl
    (sb_cons (pc2 := 57) (sx_iconst (show decode cX2_addHole 56 = .ok (.iconst 1, 1) by decide +kernel) (by decide)) rfl
    (sb_cons (pc2 := 58) (sx_iadd (show decode cX2_addHole 57 = .ok (.iadd, 1) by decide +kernel)) rfl
    (sb_cons (pc2 := 61) (sx_puti (show decode cX2_addHole 58 = .ok (.putfield 9, 3) by decide +kernel) rfl iX2 tyX2_ok nmX2 (by decide) wd_86 rfl (Or.inl rfl)) rfl
    (sb_cons (pc2 := 62) (sx_aload_n (show decode cX2_addHole 61 = .ok (.aload_n 0, 1) by decide +kernel) rfl) rfl
    (sb_cons (pc2 := 65) (sx_getf (show decode cX2_addHole 62 = .ok (.getfield 9, 3) by decide +kernel) rfl iX2 (by decide) wd_86) rfl
    (sb_cons (pc2 := 66) (sx_reti (show decode cX2_addHole 65 = .ok (.ireturn, 1) by decide +kernel) rfl) rfl sb_nil)))))))))))))))
  ms_nil)))))
def kX2_item (X : px_X) : px_B := [(0, [], [px_iload 1, px_sw [(0, 48), (1, 53), (2, 58), (3, 63), (4, 68), (5, 73), (6, 78), (7, 83)] 88], 48),
  (48, [true, false], [px_aload 0, px_getf 2 0, px_reti], 53),
  (53, [true, false], [px_aload 0, px_getf 2 1, px_reti], 58),
  (58, [true, false], [px_aload 0, px_getf 2 2, px_reti], 63),
  (63, [true, false], [px_aload 0, px_getf 2 3, px_reti], 68),
  (68, [true, false], [px_aload 0, px_getf 2 4, px_reti], 73),
  (73, [true, false], [px_aload 0, px_getf 2 7, px_reti], 78),
  (78, [true, false], [px_aload 0, px_getf 2 8, px_reti], 83),
  (83, [true, false], [px_aload 0, px_cV X 27 1 2, px_reti], 88),
  (88, [false, false], [px_push (.int (-2)), px_reti], 91)]
set_option maxRecDepth 100000 in
set_option maxHeartbeats 8000000 in
theorem sX2_item (d : Nat) (X : px_X) : px_MS d X YX2_item (kX2_item X) :=
  (ms_cons
  (sb_cons (pc2 := 1) (sx_iload_n (show decode cX2_item 0 = .ok (.iload_n 1, 1) by decide +kernel) rfl) rfl
    (sb_cons (pc2 := 48) (sx_tsw (show decode cX2_item 1 = .ok (.tableswitch 87 0 7 #[47, 52, 57, 62, 67, 72, 77, 82], 47) by decide +kernel) (by decide) (by decide +kernel) (by decide +kernel)) rfl sb_nil))
  (ms_cons
  (sb_cons (pc2 := 49) (sx_aload_n (show decode cX2_item 48 = .ok (.aload_n 0, 1) by decide +kernel) rfl) rfl
    (sb_cons (pc2 := 52) (sx_getf (show decode cX2_item 49 = .ok (.getfield 29, 3) by decide +kernel) rfl iX2 (by decide) wd_91) rfl
    (sb_cons (pc2 := 53) (sx_reti (show decode cX2_item 52 = .ok (.ireturn, 1) by decide +kernel) rfl) rfl sb_nil)))
  (ms_cons
  (sb_cons (pc2 := 54) (sx_aload_n (show decode cX2_item 53 = .ok (.aload_n 0, 1) by decide +kernel) rfl) rfl
    (sb_cons (pc2 := 57) (sx_getf (show decode cX2_item 54 = .ok (.getfield 32, 3) by decide +kernel) rfl iX2 (by decide) wd_92) rfl
    (sb_cons (pc2 := 58) (sx_reti (show decode cX2_item 57 = .ok (.ireturn, 1) by decide +kernel) rfl) rfl sb_nil)))
  (ms_cons
  (sb_cons (pc2 := 59) (sx_aload_n (show decode cX2_item 58 = .ok (.aload_n 0, 1) by decide +kernel) rfl) rfl
    (sb_cons (pc2 := 62) (sx_getf (show decode cX2_item 59 = .ok (.getfield 35, 3) by decide +kernel) rfl iX2 (by decide) wd_93) rfl
    (sb_cons (pc2 := 63) (sx_reti (show decode cX2_item 62 = .ok (.ireturn, 1) by decide +kernel) rfl) rfl sb_nil)))
  (ms_cons
  (sb_cons (pc2 := 64) (sx_aload_n (show decode cX2_item 63 = .ok (.aload_n 0, 1) by decide +kernel) rfl) rfl
    (sb_cons (pc2 := 67) (sx_getf (show decode cX2_item 64 = .ok (.getfield 38, 3) by decide +kernel) rfl iX2 (by decide) wd_94) rfl
    (sb_cons (pc2 := 68) (sx_reti (show decode cX2_item 67 = .ok (.ireturn, 1) by decide +kernel) rfl) rfl sb_nil)))
  (ms_cons
  (sb_cons (pc2 := 69) (sx_aload_n (show decode cX2_item 68 = .ok (.aload_n 0, 1) by decide +kernel) rfl) rfl
    (sb_cons (pc2 := 72) (sx_getf (show decode cX2_item 69 = .ok (.getfield 9, 3) by decide +kernel) rfl iX2 (by decide) wd_86) rfl
    (sb_cons (pc2 := 73) (sx_reti (show decode cX2_item 72 = .ok (.ireturn, 1) by decide +kernel) rfl) rfl sb_nil)))
  (ms_cons
  (sb_cons (pc2 := 74) (sx_aload_n (show decode cX2_item 73 = .ok (.aload_n 0, 1) by decide +kernel) rfl) rfl
    (sb_cons (pc2 := 77) (sx_getf (show decode cX2_item 74 = .ok (.getfield 23, 3) by decide +kernel) rfl iX2 (by decide) wd_89) rfl
    (sb_cons (pc2 := 78) (sx_reti (show decode cX2_item 77 = .ok (.ireturn, 1) by decide +kernel) rfl) rfl sb_nil)))
  (ms_cons
  (sb_cons (pc2 := 79) (sx_aload_n (show decode cX2_item 78 = .ok (.aload_n 0, 1) by decide +kernel) rfl) rfl
    (sb_cons (pc2 := 82) (sx_getf (show decode cX2_item 79 = .ok (.getfield 26, 3) by decide +kernel) rfl iX2 (by decide) wd_90) rfl
    (sb_cons (pc2 := 83) (sx_reti (show decode cX2_item 82 = .ok (.ireturn, 1) by decide +kernel) rfl) rfl sb_nil)))
  (ms_cons
  (sb_cons (pc2 := 84) (sx_aload_n (show decode cX2_item 83 = .ok (.aload_n 0, 1) by decide +kernel) rfl) rfl
    (sb_cons (pc2 := 87) (sx_cV (Y' := YX2_readyDay) (q := (RX2, TX2, 9)) rfl (show decode cX2_item 84 = .ok (.invokevirtual 44, 3) by decide +kernel) rfl rfl (px_w4 wd_97 wd_98 wd_99 wd_100) wd_96 ⟨by decide, by decide, by decide +kernel⟩ (by decide)) rfl
    (sb_cons (pc2 := 88) (sx_reti (show decode cX2_item 87 = .ok (.ireturn, 1) by decide +kernel) rfl) rfl sb_nil)))
  (ms_cons
  (sb_cons (pc2 := 90) (sx_bipush (show decode cX2_item 88 = .ok (.bipush (-2), 2) by decide +kernel) (by decide)) rfl
    (sb_cons (pc2 := 91) (sx_reti (show decode cX2_item 90 = .ok (.ireturn, 1) by decide +kernel) rfl) rfl sb_nil))
  ms_nil))))))))))
def kX2_readyDay (X : px_X) : px_B := [(0, [], [px_aload 0, px_getf 2 7, px_push (.int (-1)), px_if2 (fun x y => decide (x = y)) 24, px_aload 0, px_getf 2 0, px_if1 (fun x => decide (x < 0)) 24, px_aload 0, px_getf 2 0, px_push (.int 6), px_if2 (fun x y => decide (x < y)) 28], 24),
  (24, [false], [px_push (.int (-1)), px_goto 49], 28),
  (28, [true], [px_aload 0, px_getf 2 8, px_push (.int 7), px_push (.ref 2), px_aload 0, px_getf 2 0, px_iald 0, (px_i2 fun x y => x * y), px_aload 0, px_getf 2 3, (px_i2 fun x y => x * y), (px_i2 fun x y => x + y)], 49),
  (49, [false], [px_reti], 50)]
set_option maxRecDepth 100000 in
set_option maxHeartbeats 8000000 in
theorem sX2_readyDay (d : Nat) (X : px_X) : px_MS d X YX2_readyDay (kX2_readyDay X) :=
  (ms_cons
  (sb_cons (pc2 := 1) (sx_aload_n (show decode cX2_readyDay 0 = .ok (.aload_n 0, 1) by decide +kernel) rfl) rfl
    (sb_cons (pc2 := 4) (sx_getf (show decode cX2_readyDay 1 = .ok (.getfield 23, 3) by decide +kernel) rfl iX2 (by decide) wd_89) rfl
    (sb_cons (pc2 := 5) (sx_iconst (show decode cX2_readyDay 4 = .ok (.iconst (-1), 1) by decide +kernel) (by decide)) rfl
    (sb_cons (pc2 := 8) (sx_icmp_eq (show decode cX2_readyDay 5 = .ok (.if_icmp .eq 19, 3) by decide +kernel) (by decide)) rfl
    (sb_cons (pc2 := 9) (sx_aload_n (show decode cX2_readyDay 8 = .ok (.aload_n 0, 1) by decide +kernel) rfl) rfl
    (sb_cons (pc2 := 12) (sx_getf (show decode cX2_readyDay 9 = .ok (.getfield 29, 3) by decide +kernel) rfl iX2 (by decide) wd_91) rfl
    (sb_cons (pc2 := 15) (sx_if_lt (show decode cX2_readyDay 12 = .ok (.ifCond .lt 12, 3) by decide +kernel) (by decide)) rfl
    (sb_cons (pc2 := 16) (sx_aload_n (show decode cX2_readyDay 15 = .ok (.aload_n 0, 1) by decide +kernel) rfl) rfl
    (sb_cons (pc2 := 19) (sx_getf (show decode cX2_readyDay 16 = .ok (.getfield 29, 3) by decide +kernel) rfl iX2 (by decide) wd_91) rfl
    (sb_cons (pc2 := 21) (sx_bipush (show decode cX2_readyDay 19 = .ok (.bipush 6, 2) by decide +kernel) (by decide)) rfl
    (sb_cons (pc2 := 24) (sx_icmp_lt (show decode cX2_readyDay 21 = .ok (.if_icmp .lt 7, 3) by decide +kernel) (by decide)) rfl sb_nil)))))))))))
  (ms_cons
  (sb_cons (pc2 := 25) (sx_iconst (show decode cX2_readyDay 24 = .ok (.iconst (-1), 1) by decide +kernel) (by decide)) rfl
    (sb_cons (pc2 := 28) (px_snd_goto (show decode cX2_readyDay 25 = .ok (.goto 24, 3) by decide +kernel) (by decide)) rfl sb_nil))
  (ms_cons
  (sb_cons (pc2 := 29) (sx_aload_n (show decode cX2_readyDay 28 = .ok (.aload_n 0, 1) by decide +kernel) rfl) rfl
    (sb_cons (pc2 := 32) (sx_getf (show decode cX2_readyDay 29 = .ok (.getfield 26, 3) by decide +kernel) rfl iX2 (by decide) wd_90) rfl
    (sb_cons (pc2 := 34) (sx_bipush (show decode cX2_readyDay 32 = .ok (.bipush 7, 2) by decide +kernel) (by decide)) rfl
    (sb_cons (pc2 := 37) (sx_weeks (show decode cX2_readyDay 34 = .ok (.getstatic 48, 3) by decide +kernel) wd_101) rfl
    (sb_cons (pc2 := 38) (sx_aload_n (show decode cX2_readyDay 37 = .ok (.aload_n 0, 1) by decide +kernel) rfl) rfl
    (sb_cons (pc2 := 41) (sx_getf (show decode cX2_readyDay 38 = .ok (.getfield 29, 3) by decide +kernel) rfl iX2 (by decide) wd_91) rfl
    (sb_cons (pc2 := 42) (sx_iald (show decode cX2_readyDay 41 = .ok (.iaload, 1) by decide +kernel)) rfl
    (sb_cons (pc2 := 43) (sx_imul (show decode cX2_readyDay 42 = .ok (.imul, 1) by decide +kernel)) rfl
    (sb_cons (pc2 := 44) (sx_aload_n (show decode cX2_readyDay 43 = .ok (.aload_n 0, 1) by decide +kernel) rfl) rfl
    (sb_cons (pc2 := 47) (sx_getf (show decode cX2_readyDay 44 = .ok (.getfield 38, 3) by decide +kernel) rfl iX2 (by decide) wd_94) rfl
    (sb_cons (pc2 := 48) (sx_imul (show decode cX2_readyDay 47 = .ok (.imul, 1) by decide +kernel)) rfl
    (sb_cons (pc2 := 49) (sx_iadd (show decode cX2_readyDay 48 = .ok (.iadd, 1) by decide +kernel)) rfl sb_nil))))))))))))
  (ms_cons
  (sb_cons (pc2 := 50) (sx_reti (show decode cX2_readyDay 49 = .ok (.ireturn, 1) by decide +kernel) rfl) rfl sb_nil)
  ms_nil))))
def kX2_goInto (X : px_X) : px_B := [(0, [], [px_aload 0, px_push (.int 0), px_putz 2 6, px_aload 0, px_iload 1, px_puti 2 7, px_aload 0, px_iload 2, px_puti 2 8, px_retv], 16)]
set_option maxRecDepth 100000 in
set_option maxHeartbeats 8000000 in
theorem sX2_goInto (d : Nat) (X : px_X) : px_MS d X YX2_goInto (kX2_goInto X) :=
  (ms_cons
  (sb_cons (pc2 := 1) (sx_aload_n (show decode cX2_goInto 0 = .ok (.aload_n 0, 1) by decide +kernel) rfl) rfl
    (sb_cons (pc2 := 2) (sx_iconst (show decode cX2_goInto 1 = .ok (.iconst 0, 1) by decide +kernel) (by decide)) rfl
    (sb_cons (pc2 := 5) (sx_putz (show decode cX2_goInto 2 = .ok (.putfield 19, 3) by decide +kernel) rfl iX2 tyX2_ok nmX2 (by decide) wd_88 rfl rfl) rfl
    (sb_cons (pc2 := 6) (sx_aload_n (show decode cX2_goInto 5 = .ok (.aload_n 0, 1) by decide +kernel) rfl) rfl
    (sb_cons (pc2 := 7) (sx_iload_n (show decode cX2_goInto 6 = .ok (.iload_n 1, 1) by decide +kernel) rfl) rfl
    (sb_cons (pc2 := 10) (sx_puti (show decode cX2_goInto 7 = .ok (.putfield 23, 3) by decide +kernel) rfl iX2 tyX2_ok nmX2 (by decide) wd_89 rfl (Or.inl rfl)) rfl
    (sb_cons (pc2 := 11) (sx_aload_n (show decode cX2_goInto 10 = .ok (.aload_n 0, 1) by decide +kernel) rfl) rfl
    (sb_cons (pc2 := 12) (sx_iload_n (show decode cX2_goInto 11 = .ok (.iload_n 2, 1) by decide +kernel) rfl) rfl
    (sb_cons (pc2 := 15) (sx_puti (show decode cX2_goInto 12 = .ok (.putfield 26, 3) by decide +kernel) rfl iX2 tyX2_ok nmX2 (by decide) wd_90 rfl (Or.inl rfl)) rfl
    (sb_cons (pc2 := 16) (sx_retv (show decode cX2_goInto 15 = .ok (.return_, 1) by decide +kernel) rfl) rfl sb_nil))))))))))
  ms_nil)
def kX2_goOut (X : px_X) : px_B := [(0, [], [px_aload 0, px_push (.int (-1)), px_puti 2 7, px_aload 0, px_push (.int (-1)), px_puti 2 8, px_retv], 11)]
set_option maxRecDepth 100000 in
set_option maxHeartbeats 8000000 in
theorem sX2_goOut (d : Nat) (X : px_X) : px_MS d X YX2_goOut (kX2_goOut X) :=
  (ms_cons
  (sb_cons (pc2 := 1) (sx_aload_n (show decode cX2_goOut 0 = .ok (.aload_n 0, 1) by decide +kernel) rfl) rfl
    (sb_cons (pc2 := 2) (sx_iconst (show decode cX2_goOut 1 = .ok (.iconst (-1), 1) by decide +kernel) (by decide)) rfl
    (sb_cons (pc2 := 5) (sx_puti (show decode cX2_goOut 2 = .ok (.putfield 23, 3) by decide +kernel) rfl iX2 tyX2_ok nmX2 (by decide) wd_89 rfl (Or.inl rfl)) rfl
    (sb_cons (pc2 := 6) (sx_aload_n (show decode cX2_goOut 5 = .ok (.aload_n 0, 1) by decide +kernel) rfl) rfl
    (sb_cons (pc2 := 7) (sx_iconst (show decode cX2_goOut 6 = .ok (.iconst (-1), 1) by decide +kernel) (by decide)) rfl
    (sb_cons (pc2 := 10) (sx_puti (show decode cX2_goOut 7 = .ok (.putfield 26, 3) by decide +kernel) rfl iX2 tyX2_ok nmX2 (by decide) wd_90 rfl (Or.inl rfl)) rfl
    (sb_cons (pc2 := 11) (sx_retv (show decode cX2_goOut 10 = .ok (.return_, 1) by decide +kernel) rfl) rfl sb_nil)))))))
  ms_nil)
