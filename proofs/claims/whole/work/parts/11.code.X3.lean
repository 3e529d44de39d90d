/-! the code of methods as pure instructions (written by wip/whole/gen.py) -/
def kX3_init (X : px_X) : px_B := [(0, [], [px_aload 0, px_pop, px_aload 0, px_push (.int 0), px_puti 3 0, px_aload 0, px_push (.int 0), px_puti 3 1, px_aload 0, px_push (.int 4), px_newi 0, px_putr 3 2, px_aload 0, px_push (.int 512), px_newi 0, px_putr 3 3, px_aload 0, px_push (.int 512), px_newi 0, px_putr 3 4, px_aload 0, px_push (.int 512), px_newl, px_putr 3 5, px_aload 0, px_push (.int 512), px_newl, px_putr 3 6, px_aload 0, px_push (.int 0), px_putz 3 7, px_aload 0, px_push (.int 0), px_puti 3 8, px_aload 0, px_push (.int 9), px_newi 0, px_putr 3 9, px_retv], 76)]
set_option maxRecDepth 100000 in
set_option maxHeartbeats 8000000 in
theorem sX3_init (d : Nat) (X : px_X) : px_MS d X YX3_init (kX3_init X) :=
  (ms_cons
  (sb_cons (pc2 := 1) (sx_aload_n (show decode cX3_init 0 = .ok (.aload_n 0, 1) by decide +kernel) rfl) rfl
    (sb_cons (pc2 := 4) (sx_pop (show decode cX3_init 1 = .ok (.invokespecial 5, 3) by decide +kernel) wd_102 wd_1 wd_2) rfl
    (sb_cons (pc2 := 5) (sx_aload_n (show decode cX3_init 4 = .ok (.aload_n 0, 1) by decide +kernel) rfl) rfl
    (sb_cons (pc2 := 6) (sx_iconst (show decode cX3_init 5 = .ok (.iconst 0, 1) by decide +kernel) (by decide)) rfl
    (sb_cons (pc2 := 9) (sx_puti (show decode cX3_init 6 = .ok (.putfield 11, 3) by decide +kernel) rfl iX3 tyX3_ok nmX3 (by decide) wd_103 rfl (Or.inl rfl)) rfl
    (sb_cons (pc2 := 10) (sx_aload_n (show decode cX3_init 9 = .ok (.aload_n 0, 1) by decide +kernel) rfl) rfl
    (sb_cons (pc2 := 11) (sx_iconst (show decode cX3_init 10 = .ok (.iconst 0, 1) by decide +kernel) (by decide)) rfl
    (sb_cons (pc2 := 14) (sx_puti (show decode cX3_init 11 = .ok (.putfield 15, 3) by decide +kernel) rfl iX3 tyX3_ok nmX3 (by decide) wd_104 rfl (Or.inl rfl)) rfl
    (sb_cons (pc2 := 15) (sx_aload_n (show decode cX3_init 14 = .ok (.aload_n 0, 1) by decide +kernel) rfl) rfl
    (sb_cons (pc2 := 16) (sx_iconst (show decode cX3_init 15 = .ok (.iconst 4, 1) by decide +kernel) (by decide)) rfl
    (sb_cons (pc2 := 18) (sx_newi (t := 0) (show decode cX3_init 16 = .ok (.newarray .int, 2) by decide +kernel) rfl (fun _ => rfl) (Or.inl rfl) wd_17) rfl
    (sb_cons (pc2 := 21) (sx_putr (show decode cX3_init 18 = .ok (.putfield 18, 3) by decide +kernel) rfl iX3 tyX3_ok nmX3 (by decide) wd_105 (Or.inr ⟨_, rfl⟩) (Or.inr ⟨rfl, rfl, rfl⟩)) rfl
    (sb_cons (pc2 := 22) (sx_aload_n (show decode cX3_init 21 = .ok (.aload_n 0, 1) by decide +kernel) rfl) rfl
    (sb_cons (pc2 := 25) (sx_sipush (show decode cX3_init 22 = .ok (.sipush 512, 3) by decide +kernel) (by decide)) rfl
    (sb_cons (pc2 := 27) (sx_newi (t := 0) (show decode cX3_init 25 = .ok (.newarray .int, 2) by decide +kernel) rfl (fun _ => rfl) (Or.inl rfl) wd_17) rfl
    (sb_cons (pc2 := 30) (sx_putr (show decode cX3_init 27 = .ok (.putfield 22, 3) by decide +kernel) rfl iX3 tyX3_ok nmX3 (by decide) wd_106 (Or.inr ⟨_, rfl⟩) (Or.inr ⟨rfl, rfl, rfl⟩)) rfl
    (sb_cons (pc2 := 31) (sx_aload_n (show decode cX3_init 30 = .ok (.aload_n 0, 1) by decide +kernel) rfl) rfl
    (sb_cons (pc2 := 34) (sx_sipush (show decode cX3_init 31 = .ok (.sipush 512, 3) by decide +kernel) (by decide)) rfl
    (sb_cons (pc2 := 36) (sx_newi (t := 0) (show decode cX3_init 34 = .ok (.newarray .int, 2) by decide +kernel) rfl (fun _ => rfl) (Or.inl rfl) wd_17) rfl
    (sb_cons (pc2 := 39) (sx_putr (show decode cX3_init 36 = .ok (.putfield 25, 3) by decide +kernel) rfl iX3 tyX3_ok nmX3 (by decide) wd_107 (Or.inr ⟨_, rfl⟩) (Or.inr ⟨rfl, rfl, rfl⟩)) rfl
    (sb_cons (pc2 := 40) (sx_aload_n (show decode cX3_init 39 = .ok (.aload_n 0, 1) by decide +kernel) rfl) rfl
    (sb_cons (pc2 := 43) (sx_sipush (show decode cX3_init 40 = .ok (.sipush 512, 3) by decide +kernel) (by decide)) rfl
    (sb_cons (pc2 := 45) (sx_newl (show decode cX3_init 43 = .ok (.newarray .long, 2) by decide +kernel) rfl wd_108) rfl
    (sb_cons (pc2 := 48) (sx_putr (show decode cX3_init 45 = .ok (.putfield 28, 3) by decide +kernel) rfl iX3 tyX3_ok nmX3 (by decide) wd_109 (Or.inr ⟨_, rfl⟩) (Or.inr ⟨rfl, rfl, rfl⟩)) rfl
    (sb_cons (pc2 := 49) (sx_aload_n (show decode cX3_init 48 = .ok (.aload_n 0, 1) by decide +kernel) rfl) rfl
    (sb_cons (pc2 := 52) (sx_sipush (show decode cX3_init 49 = .ok (.sipush 512, 3) by decide +kernel) (by decide)) rfl
    (sb_cons (pc2 := 54) (sx_newl (show decode cX3_init 52 = .ok (.newarray .long, 2) by decide +kernel) rfl wd_108) rfl
    (sb_cons (pc2 := 57) (sx_putr (show decode cX3_init 54 = .ok (.putfield 32, 3) by decide +kernel) rfl iX3 tyX3_ok nmX3 (by decide) wd_110 (Or.inr ⟨_, rfl⟩) (Or.inr ⟨rfl, rfl, rfl⟩)) rfl
    (sb_cons (pc2 := 58) (sx_aload_n (show decode cX3_init 57 = .ok (.aload_n 0, 1) by decide +kernel) rfl) rfl
    (sb_cons (pc2 := 59) (sx_iconst (show decode cX3_init 58 = .ok (.iconst 0, 1) by decide +kernel) (by decide)) rfl
    (sb_cons (pc2 := 62) (sx_putz (show decode cX3_init 59 = .ok (.putfield 35, 3) by decide +kernel) rfl iX3 tyX3_ok nmX3 (by decide) wd_111 rfl rfl) rfl
    (sb_cons (pc2 := 63) (sx_aload_n (show decode cX3_init 62 = .ok (.aload_n 0, 1) by decide +kernel) rfl) rfl
    (sb_cons (pc2 := 64) (sx_iconst (show decode cX3_init 63 = .ok (.iconst 0, 1) by decide +kernel) (by decide)) rfl
    (sb_cons (pc2 := 67) (sx_puti (show decode cX3_init 64 = .ok (.putfield 39, 3) by decide +kernel) rfl iX3 tyX3_ok nmX3 (by decide) wd_112 rfl (Or.inl rfl)) rfl
    (sb_cons (pc2 := 68) (sx_aload_n (show decode cX3_init 67 = .ok (.aload_n 0, 1) by decide +kernel) rfl) rfl
    (sb_cons (pc2 := 70) (sx_bipush (show decode cX3_init 68 = .ok (.bipush 9, 2) by decide +kernel) (by decide)) rfl
    (sb_cons (pc2 := 72) (sx_newi (t := 0) (show decode cX3_init 70 = .ok (.newarray .int, 2) by decide +kernel) rfl (fun _ => rfl) (Or.inl rfl) wd_17) rfl
    (sb_cons (pc2 := 75) (sx_putr (show decode cX3_init 72 = .ok (.putfield 42, 3) by decide +kernel) rfl iX3 tyX3_ok nmX3 (by decide) wd_113 (Or.inr ⟨_, rfl⟩) (Or.inr ⟨rfl, rfl, rfl⟩)) rfl
    (sb_cons (pc2 := 76) (sx_retv (show decode cX3_init 75 = .ok (.return_, 1) by decide +kernel) rfl) rfl sb_nil)))))))))))))))))))))))))))))))))))))))
  ms_nil)
def kX3_addTask (X : px_X) : px_B := [(0, [], [px_iload 1, px_push (.int 1), px_if2 (fun x y => decide (x < y)) 23, px_iload 1, px_push (.int 200), px_if2 (fun x y => decide (y < x)) 23, px_iload 2, px_if1 (fun x => decide (x < 0)) 23, px_iload 2, px_push (.int 999), px_if2 (fun x y => decide (x ≤ y)) 26], 23),
  (23, [false, false, false, false, false, false], [px_push (.int (-2)), px_reti], 26),
  (26, [true, true, true, false, false, false], [px_aload 0, px_getf 3 0, px_push (.int 9), px_if2 (fun x y => decide (x < y)) 38, px_push (.int (-4)), px_reti], 38),
  (38, [true, true, true, false, false, false], [px_push (.int 390625), px_istore 3, px_push (.int 0), px_istore 4], 44),
  (44, [true, true, true, true, true, false], [px_iload 4, px_aload 0, px_getf 3 0, px_if2 (fun x y => decide (y ≤ x)) 63, px_iload 3, px_push (.int 5), (px_i2d fun x y => x / y), px_istore 3, px_iinc 4 1, px_goto 44], 63),
  (63, [true, true, true, true, false, false], [px_push (.int 1), px_aload 0, px_getf 3 0, (px_i2 fun x y => x <<< (y &&& 31)), px_istore 4, px_push (.int 0), px_istore 5], 74),
  (74, [true, true, true, true, true, true], [px_iload 5, px_iload 4, px_if2 (fun x y => decide (y ≤ x)) 149, px_aload 0, px_getf 3 3, px_iload 4, px_iload 5, (px_i2 fun x y => x + y), px_aload 0, px_getf 3 3, px_iload 5, px_iald 0, px_iload 1, (px_i2 fun x y => x + y), px_iast 0, px_aload 0, px_getf 3 4, px_iload 4, px_iload 5, (px_i2 fun x y => x + y), px_aload 0, px_getf 3 4, px_iload 5, px_iald 0, px_iload 3, (px_i2 fun x y => x + y), px_iast 0, px_aload 0, px_getf 3 5, px_iload 4, px_iload 5, (px_i2 fun x y => x + y), px_aload 0, px_getf 3 5, px_iload 5, px_lald, px_iload 2, px_i2l, px_push (.long 1953125), (px_l2 fun x y => x * y), (px_l2 fun x y => x + y), px_last, px_iinc 5 1, px_goto 74], 149),
  (149, [true, false, false, false, false, false], [px_aload 0, px_dup, px_getf 3 0, px_push (.int 1), (px_i2 fun x y => x + y), px_puti 3 0, px_aload 0, px_push (.int 0), px_putz 3 7, px_aload 0, px_getf 3 0, px_push (.int 1), (px_i2 fun x y => x - y), px_reti], 171)]
set_option maxRecDepth 100000 in
set_option maxHeartbeats 8000000 in
theorem sX3_addTask (d : Nat) (X : px_X) : px_MS d X YX3_addTask (kX3_addTask X) :=
  (ms_cons
  (sb_cons (pc2 := 1) (sx_iload_n (show decode cX3_addTask 0 = .ok (.iload_n 1, 1) by decide +kernel) rfl) rfl
    (sb_cons (pc2 := 2) (sx_iconst (show decode cX3_addTask 1 = .ok (.iconst 1, 1) by decide +kernel) (by decide)) rfl
    (sb_cons (pc2 := 5) (sx_icmp_lt (show decode cX3_addTask 2 = .ok (.if_icmp .lt 21, 3) by decide +kernel) (by decide)) rfl
    (sb_cons (pc2 := 6) (sx_iload_n (show decode cX3_addTask 5 = .ok (.iload_n 1, 1) by decide +kernel) rfl) rfl
    (sb_cons (pc2 := 9) (sx_sipush (show decode cX3_addTask 6 = .ok (.sipush 200, 3) by decide +kernel) (by decide)) rfl
    (sb_cons (pc2 := 12) (sx_icmp_gt (show decode cX3_addTask 9 = .ok (.if_icmp .gt 14, 3) by decide +kernel) (by decide)) rfl
    (sb_cons (pc2 := 13) (sx_iload_n (show decode cX3_addTask 12 = .ok (.iload_n 2, 1) by decide +kernel) rfl) rfl
    (sb_cons (pc2 := 16) (sx_if_lt (show decode cX3_addTask 13 = .ok (.ifCond .lt 10, 3) by decide +kernel) (by decide)) rfl
    (sb_cons (pc2 := 17) (sx_iload_n (show decode cX3_addTask 16 = .ok (.iload_n 2, 1) by decide +kernel) rfl) rfl
    (sb_cons (pc2 := 20) (sx_sipush (show decode cX3_addTask 17 = .ok (.sipush 999, 3) by decide +kernel) (by decide)) rfl
    (sb_cons (pc2 := 23) (sx_icmp_le (show decode cX3_addTask 20 = .ok (.if_icmp .le 6, 3) by decide +kernel) (by decide)) rfl sb_nil)))))))))))
  (ms_cons
  (sb_cons (pc2 := 25) (sx_bipush (show decode cX3_addTask 23 = .ok (.bipush (-2), 2) by decide +kernel) (by decide)) rfl
    (sb_cons (pc2 := 26) (sx_reti (show decode cX3_addTask 25 = .ok (.ireturn, 1) by decide +kernel) rfl) rfl sb_nil))
  (ms_cons
  (sb_cons (pc2 := 27) (sx_aload_n (show decode cX3_addTask 26 = .ok (.aload_n 0, 1) by decide +kernel) rfl) rfl
    (sb_cons (pc2 := 30) (sx_getf (show decode cX3_addTask 27 = .ok (.getfield 11, 3) by decide +kernel) rfl iX3 (by decide) wd_103) rfl
    (sb_cons (pc2 := 32) (sx_bipush (show decode cX3_addTask 30 = .ok (.bipush 9, 2) by decide +kernel) (by decide)) rfl
    (sb_cons (pc2 := 35) (sx_icmp_lt (show decode cX3_addTask 32 = .ok (.if_icmp .lt 6, 3) by decide +kernel) (by decide)) rfl
    (sb_cons (pc2 := 37) (sx_bipush (show decode cX3_addTask 35 = .ok (.bipush (-4), 2) by decide +kernel) (by decide)) rfl
    (sb_cons (pc2 := 38) (sx_reti (show decode cX3_addTask 37 = .ok (.ireturn, 1) by decide +kernel) rfl) rfl sb_nil))))))
  (ms_cons
  (sb_cons (pc2 := 40) (sx_ldc (show decode cX3_addTask 38 = .ok (.ldc 45, 2) by decide +kernel) wd_114) rfl
    (sb_cons (pc2 := 41) (sx_istore_n (show decode cX3_addTask 40 = .ok (.istore_n 3, 1) by decide +kernel) rfl) rfl
    (sb_cons (pc2 := 42) (sx_iconst (show decode cX3_addTask 41 = .ok (.iconst 0, 1) by decide +kernel) (by decide)) rfl
    (sb_cons (pc2 := 44) (sx_istore (show decode cX3_addTask 42 = .ok (.istore 4, 2) by decide +kernel)) rfl sb_nil))))
  (ms_cons
  (sb_cons (pc2 := 46) (sx_iload (show decode cX3_addTask 44 = .ok (.iload 4, 2) by decide +kernel)) rfl
    (sb_cons (pc2 := 47) (sx_aload_n (show decode cX3_addTask 46 = .ok (.aload_n 0, 1) by decide +kernel) rfl) rfl
    (sb_cons (pc2 := 50) (sx_getf (show decode cX3_addTask 47 = .ok (.getfield 11, 3) by decide +kernel) rfl iX3 (by decide) wd_103) rfl
    (sb_cons (pc2 := 53) (sx_icmp_ge (show decode cX3_addTask 50 = .ok (.if_icmp .ge 13, 3) by decide +kernel) (by decide)) rfl
    (sb_cons (pc2 := 54) (sx_iload_n (show decode cX3_addTask 53 = .ok (.iload_n 3, 1) by decide +kernel) rfl) rfl
    (sb_cons (pc2 := 55) (sx_iconst (show decode cX3_addTask 54 = .ok (.iconst 5, 1) by decide +kernel) (by decide)) rfl
    (sb_cons (pc2 := 56) (sx_idiv (show decode cX3_addTask 55 = .ok (.idiv, 1) by decide +kernel)) rfl
    (sb_cons (pc2 := 57) (sx_istore_n (show decode cX3_addTask 56 = .ok (.istore_n 3, 1) by decide +kernel) rfl) rfl
    (sb_cons (pc2 := 60) (sx_iinc (show decode cX3_addTask 57 = .ok (.iinc 4 1, 3) by decide +kernel) (by decide)) rfl
    (sb_cons (pc2 := 63) (px_snd_goto (show decode cX3_addTask 60 = .ok (.goto (-16), 3) by decide +kernel) (by decide)) rfl sb_nil))))))))))
  (ms_cons
  (sb_cons (pc2 := 64) (sx_iconst (show decode cX3_addTask 63 = .ok (.iconst 1, 1) by decide +kernel) (by decide)) rfl
    (sb_cons (pc2 := 65) (sx_aload_n (show decode cX3_addTask 64 = .ok (.aload_n 0, 1) by decide +kernel) rfl) rfl
    (sb_cons (pc2 := 68) (sx_getf (show decode cX3_addTask 65 = .ok (.getfield 11, 3) by decide +kernel) rfl iX3 (by decide) wd_103) rfl
    (sb_cons (pc2 := 69) (sx_ishl (show decode cX3_addTask 68 = .ok (.ishl, 1) by decide +kernel)) rfl
    (sb_cons (pc2 := 71) (sx_istore (show decode cX3_addTask 69 = .ok (.istore 4, 2) by decide +kernel)) rfl
    (sb_cons (pc2 := 72) (sx_iconst (show decode cX3_addTask 71 = .ok (.iconst 0, 1) by decide +kernel) (by decide)) rfl
    (sb_cons (pc2 := 74) (sx_istore (show decode cX3_addTask 72 = .ok (.istore 5, 2) by decide +kernel)) rfl sb_nil)))))))
  (ms_cons
  (sb_cons (pc2 := 76) (sx_iload (show decode cX3_addTask 74 = .ok (.iload 5, 2) by decide +kernel)) rfl
    (sb_cons (pc2 := 78) (sx_iload (show decode cX3_addTask 76 = .ok (.iload 4, 2) by decide +kernel)) rfl
    (sb_cons (pc2 := 81) (sx_icmp_ge (show decode cX3_addTask 78 = .ok (.if_icmp .ge 71, 3) by decide +kernel) (by decide)) rfl
    (sb_cons (pc2 := 82) (sx_aload_n (show decode cX3_addTask 81 = .ok (.aload_n 0, 1) by decide +kernel) rfl) rfl
    (sb_cons (pc2 := 85) (sx_getf (show decode cX3_addTask 82 = .ok (.getfield 22, 3) by decide +kernel) rfl iX3 (by decide) wd_106) rfl
    (sb_cons (pc2 := 87) (sx_iload (show decode cX3_addTask 85 = .ok (.iload 4, 2) by decide +kernel)) rfl
    (sb_cons (pc2 := 89) (sx_iload (show decode cX3_addTask 87 = .ok (.iload 5, 2) by decide +kernel)) rfl
    (sb_cons (pc2 := 90) (sx_iadd (show decode cX3_addTask 89 = .ok (.iadd, 1) by decide +kernel)) rfl
    (sb_cons (pc2 := 91) (sx_aload_n (show decode cX3_addTask 90 = .ok (.aload_n 0, 1) by decide +kernel) rfl) rfl
    (sb_cons (pc2 := 94) (sx_getf (show decode cX3_addTask 91 = .ok (.getfield 22, 3) by decide +kernel) rfl iX3 (by decide) wd_106) rfl
    (sb_cons (pc2 := 96) (sx_iload (show decode cX3_addTask 94 = .ok (.iload 5, 2) by decide +kernel)) rfl
    (sb_cons (pc2 := 97) (sx_iald (show decode cX3_addTask 96 = .ok (.iaload, 1) by decide +kernel)) rfl
    (sb_cons (pc2 := 98) (sx_iload_n (show decode cX3_addTask 97 = .ok (.iload_n 1, 1) by decide +kernel) rfl) rfl
    (sb_cons (pc2 := 99) (sx_iadd (show decode cX3_addTask 98 = .ok (.iadd, 1) by decide +kernel)) rfl
    (sb_cons (pc2 := 100) (sx_iast (show decode cX3_addTask 99 = .ok (.iastore, 1) by decide +kernel)) rfl
    (sb_cons (pc2 := 101) (sx_aload_n (show decode cX3_addTask 100 = .ok (.aload_n 0, 1) by decide +kernel) rfl) rfl
    (sb_cons (pc2 := 104) (sx_getf (show decode cX3_addTask 101 = .ok (.getfield 25, 3) by decide +kernel) rfl iX3 (by decide) wd_107) rfl
    (sb_cons (pc2 := 106) (sx_iload (show decode cX3_addTask 104 = .ok (.iload 4, 2) by decide +kernel)) rfl
    (sb_cons (pc2 := 108) (sx_iload (show decode cX3_addTask 106 = .ok (.iload 5, 2) by decide +kernel)) rfl
    (sb_cons (pc2 := 109) (sx_iadd (show decode cX3_addTask 108 = .ok (.iadd, 1) by decide +kernel)) rfl
    (sb_cons (pc2 := 110) (sx_aload_n (show decode cX3_addTask 109 = .ok (.aload_n 0, 1) by decide +kernel) rfl) rfl
    (sb_cons (pc2 := 113) (sx_getf (show decode cX3_addTask 110 = .ok (.getfield 25, 3) by decide +kernel) rfl iX3 (by decide) wd_107) rfl
    (sb_cons (pc2 := 115) (sx_iload (show decode cX3_addTask 113 = .ok (.iload 5, 2) by decide +kernel)) rfl
    (sb_cons (pc2 := 116) (sx_iald (show decode cX3_addTask 115 = .ok (.iaload, 1) by decide +kernel)) rfl
    (sb_cons (pc2 := 117) (sx_iload_n (show decode cX3_addTask 116 = .ok (.iload_n 3, 1) by decide +kernel) rfl) rfl
    (sb_cons (pc2 := 118) (sx_iadd (show decode cX3_addTask 117 = .ok (.iadd, 1) by decide +kernel)) rfl
    (sb_cons (pc2 := 119) (sx_iast (show decode cX3_addTask 118 = .ok (.iastore, 1) by decide +kernel)) rfl
    (sb_cons (pc2 := 120) (sx_aload_n (show decode cX3_addTask 119 = .ok (.aload_n 0, 1) by decide +kernel) rfl) rfl
    (sb_cons (pc2 := 123) (sx_getf (show decode cX3_addTask 120 = .ok (.getfield 28, 3) by decide +kernel) rfl iX3 (by decide) wd_109) rfl
    (sb_cons (pc2 := 125) (sx_iload (show decode cX3_addTask 123 = .ok (.iload 4, 2) by decide +kernel)) rfl
    (sb_cons (pc2 := 127) (sx_iload (show decode cX3_addTask 125 = .ok (.iload 5, 2) by decide +kernel)) rfl
    (sb_cons (pc2 := 128) (sx_iadd (show decode cX3_addTask 127 = .ok (.iadd, 1) by decide +kernel)) rfl
    (sb_cons (pc2 := 129) (sx_aload_n (show decode cX3_addTask 128 = .ok (.aload_n 0, 1) by decide +kernel) rfl) rfl
    (sb_cons (pc2 := 132) (sx_getf (show decode cX3_addTask 129 = .ok (.getfield 28, 3) by decide +kernel) rfl iX3 (by decide) wd_109) rfl
    (sb_cons (pc2 := 134) (sx_iload (show decode cX3_addTask 132 = .ok (.iload 5, 2) by decide +kernel)) rfl
    (sb_cons (pc2 := 135) (sx_lald (show decode cX3_addTask 134 = .ok (.laload, 1) by decide +kernel)) rfl
    (sb_cons (pc2 := 136) (sx_iload_n (show decode cX3_addTask 135 = .ok (.iload_n 2, 1) by decide +kernel) rfl) rfl
    (sb_cons (pc2 := 137) (sx_i2l (show decode cX3_addTask 136 = .ok (.i2l, 1) by decide +kernel)) rfl
    (sb_cons (pc2 := 140) (sx_ldc2 (show decode cX3_addTask 137 = .ok (.ldc2_w 46, 3) by decide +kernel) wd_115) rfl
    (sb_cons (pc2 := 141) (sx_lmul (show decode cX3_addTask 140 = .ok (.lmul, 1) by decide +kernel)) rfl
    (sb_cons (pc2 := 142) (sx_ladd (show decode cX3_addTask 141 = .ok (.ladd, 1) by decide +kernel)) rfl
    (sb_cons (pc2 := 143) (sx_last (show decode cX3_addTask 142 = .ok (.lastore, 1) by decide +kernel)) rfl
    (sb_cons (pc2 := 146) (sx_iinc (show decode cX3_addTask 143 = .ok (.iinc 5 1, 3) by decide +kernel) (by decide)) rfl
    (sb_cons (pc2 := 149) (px_snd_goto (show decode cX3_addTask 146 = .ok (.goto (-72), 3) by decide +kernel) (by decide)) rfl sb_nil))))))))))))))))))))))))))))))))))))))))))))
  (ms_cons
  (sb_cons (pc2 := 150) (sx_aload_n (show decode cX3_addTask 149 = .ok (.aload_n 0, 1) by decide +kernel) rfl) rfl
    (sb_cons (pc2 := 151) (sx_dup (show decode cX3_addTask 150 = .ok (.dup, 1) by decide +kernel)) rfl
    (sb_cons (pc2 := 154) (sx_getf (show decode cX3_addTask 151 = .ok (.getfield 11, 3) by decide +kernel) rfl iX3 (by decide) wd_103) rfl
    (sb_cons (pc2 := 155) (sx_iconst (show decode cX3_addTask 154 = .ok (.iconst 1, 1) by decide +kernel) (by decide)) rfl
    (sb_cons (pc2 := 156) (sx_iadd (show decode cX3_addTask 155 = .ok (.iadd, 1) by decide +kernel)) rfl
    (sb_cons (pc2 := 159) (sx_puti (show decode cX3_addTask 156 = .ok (.putfield 11, 3) by decide +kernel) rfl iX3 tyX3_ok nmX3 (by decide) wd_103 rfl (Or.inl rfl)) rfl
    (sb_cons (pc2 := 160) (sx_aload_n (show decode cX3_addTask 159 = .ok (.aload_n 0, 1) by decide +kernel) rfl) rfl
    (sb_cons (pc2 := 161) (sx_iconst (show decode cX3_addTask 160 = .ok (.iconst 0, 1) by decide +kernel) (by decide)) rfl
    (sb_cons (pc2 := 164) (sx_putz (show decode cX3_addTask 161 = .ok (.putfield 35, 3) by decide +kernel) rfl iX3 tyX3_ok nmX3 (by decide) wd_111 rfl rfl) rfl
    (sb_cons (pc2 := 165) (sx_aload_n (show decode cX3_addTask 164 = .ok (.aload_n 0, 1) by decide +kernel) rfl) rfl
    (sb_cons (pc2 := 168) (sx_getf (show decode cX3_addTask 165 = .ok (.getfield 11, 3) by decide +kernel) rfl iX3 (by decide) wd_103) rfl
    (sb_cons (pc2 := 169) (sx_iconst (show decode cX3_addTask 168 = .ok (.iconst 1, 1) by decide +kernel) (by decide)) rfl
    (sb_cons (pc2 := 170) (sx_isub (show decode cX3_addTask 169 = .ok (.isub, 1) by decide +kernel)) rfl
    (sb_cons (pc2 := 171) (sx_reti (show decode cX3_addTask 170 = .ok (.ireturn, 1) by decide +kernel) rfl) rfl sb_nil))))))))))))))
  ms_nil))))))))
def kX3_addGang (X : px_X) : px_B := [(0, [], [px_iload 1, px_if1 (fun x => decide (x < 0)) 11, px_iload 1, px_push (.int 400), px_if2 (fun x y => decide (x ≤ y)) 14], 11),
  (11, [false, false], [px_push (.int (-2)), px_reti], 14),
  (14, [true, true], [px_aload 0, px_getf 3 1, px_push (.int 4), px_if2 (fun x y => decide (x < y)) 25, px_push (.int (-4)), px_reti], 25),
  (25, [true, true], [px_aload 0, px_getf 3 2, px_aload 0, px_getf 3 1, px_iload 1, px_iast 0, px_aload 0, px_dup, px_getf 3 1, px_push (.int 1), (px_i2 fun x y => x + y), px_puti 3 1, px_aload 0, px_push (.int 0), px_putz 3 7, px_aload 0, px_getf 3 1, px_push (.int 1), (px_i2 fun x y => x - y), px_reti], 57)]
set_option maxRecDepth 100000 in
set_option maxHeartbeats 8000000 in
theorem sX3_addGang (d : Nat) (X : px_X) : px_MS d X YX3_addGang (kX3_addGang X) :=
  (ms_cons
  (sb_cons (pc2 := 1) (sx_iload_n (show decode cX3_addGang 0 = .ok (.iload_n 1, 1) by decide +kernel) rfl) rfl
    (sb_cons (pc2 := 4) (sx_if_lt (show decode cX3_addGang 1 = .ok (.ifCond .lt 10, 3) by decide +kernel) (by decide)) rfl
    (sb_cons (pc2 := 5) (sx_iload_n (show decode cX3_addGang 4 = .ok (.iload_n 1, 1) by decide +kernel) rfl) rfl
    (sb_cons (pc2 := 8) (sx_sipush (show decode cX3_addGang 5 = .ok (.sipush 400, 3) by decide +kernel) (by decide)) rfl
    (sb_cons (pc2 := 11) (sx_icmp_le (show decode cX3_addGang 8 = .ok (.if_icmp .le 6, 3) by decide +kernel) (by decide)) rfl sb_nil)))))
  (ms_cons
  (sb_cons (pc2 := 13) (sx_bipush (show decode cX3_addGang 11 = .ok (.bipush (-2), 2) by decide +kernel) (by decide)) rfl
    (sb_cons (pc2 := 14) (sx_reti (show decode cX3_addGang 13 = .ok (.ireturn, 1) by decide +kernel) rfl) rfl sb_nil))
  (ms_cons
  (sb_cons (pc2 := 15) (sx_aload_n (show decode cX3_addGang 14 = .ok (.aload_n 0, 1) by decide +kernel) rfl) rfl
    (sb_cons (pc2 := 18) (sx_getf (show decode cX3_addGang 15 = .ok (.getfield 15, 3) by decide +kernel) rfl iX3 (by decide) wd_104) rfl
    (sb_cons (pc2 := 19) (sx_iconst (show decode cX3_addGang 18 = .ok (.iconst 4, 1) by decide +kernel) (by decide)) rfl
    (sb_cons (pc2 := 22) (sx_icmp_lt (show decode cX3_addGang 19 = .ok (.if_icmp .lt 6, 3) by decide +kernel) (by decide)) rfl
    (sb_cons (pc2 := 24) (sx_bipush (show decode cX3_addGang 22 = .ok (.bipush (-4), 2) by decide +kernel) (by decide)) rfl
    (sb_cons (pc2 := 25) (sx_reti (show decode cX3_addGang 24 = .ok (.ireturn, 1) by decide +kernel) rfl) rfl sb_nil))))))
  (ms_cons
  (sb_cons (pc2 := 26) (sx_aload_n (show decode cX3_addGang 25 = .ok (.aload_n 0, 1) by decide +kernel) rfl) rfl
    (sb_cons (pc2 := 29) (sx_getf (show decode cX3_addGang 26 = .ok (.getfield 18, 3) by decide +kernel) rfl iX3 (by decide) wd_105) rfl
    (sb_cons (pc2 := 30) (sx_aload_n (show decode cX3_addGang 29 = .ok (.aload_n 0, 1) by decide +kernel) rfl) rfl
    (sb_cons (pc2 := 33) (sx_getf (show decode cX3_addGang 30 = .ok (.getfield 15, 3) by decide +kernel) rfl iX3 (by decide) wd_104) rfl
    (sb_cons (pc2 := 34) (sx_iload_n (show decode cX3_addGang 33 = .ok (.iload_n 1, 1) by decide +kernel) rfl) rfl
    (sb_cons (pc2 := 35) (sx_iast (show decode cX3_addGang 34 = .ok (.iastore, 1) by decide +kernel)) rfl
    (sb_cons (pc2 := 36) (sx_aload_n (show decode cX3_addGang 35 = .ok (.aload_n 0, 1) by decide +kernel) rfl) rfl
    (sb_cons (pc2 := 37) (sx_dup (show decode cX3_addGang 36 = .ok (.dup, 1) by decide +kernel)) rfl
    (sb_cons (pc2 := 40) (sx_getf (show decode cX3_addGang 37 = .ok (.getfield 15, 3) by decide +kernel) rfl iX3 (by decide) wd_104) rfl
    (sb_cons (pc2 := 41) (sx_iconst (show decode cX3_addGang 40 = .ok (.iconst 1, 1) by decide +kernel) (by decide)) rfl
    (sb_cons (pc2 := 42) (sx_iadd (show decode cX3_addGang 41 = .ok (.iadd, 1) by decide +kernel)) rfl
    (sb_cons (pc2 := 45) (sx_puti (show decode cX3_addGang 42 = .ok (.putfield 15, 3) by decide +kernel) rfl iX3 tyX3_ok nmX3 (by decide) wd_104 rfl (Or.inl rfl)) rfl
    (sb_cons (pc2 := 46) (sx_aload_n (show decode cX3_addGang 45 = .ok (.aload_n 0, 1) by decide +kernel) rfl) rfl
    (sb_cons (pc2 := 47) (sx_iconst (show decode cX3_addGang 46 = .ok (.iconst 0, 1) by decide +kernel) (by decide)) rfl
    (sb_cons (pc2 := 50) (sx_putz (show decode cX3_addGang 47 = .ok (.putfield 35, 3) by decide +kernel) rfl iX3 tyX3_ok nmX3 (by decide) wd_111 rfl rfl) rfl
    (sb_cons (pc2 := 51) (sx_aload_n (show decode cX3_addGang 50 = .ok (.aload_n 0, 1) by decide +kernel) rfl) rfl
    (sb_cons (pc2 := 54) (sx_getf (show decode cX3_addGang 51 = .ok (.getfield 15, 3) by decide +kernel) rfl iX3 (by decide) wd_104) rfl
    (sb_cons (pc2 := 55) (sx_iconst (show decode cX3_addGang 54 = .ok (.iconst 1, 1) by decide +kernel) (by decide)) rfl
    (sb_cons (pc2 := 56) (sx_isub (show decode cX3_addGang 55 = .ok (.isub, 1) by decide +kernel)) rfl
    (sb_cons (pc2 := 57) (sx_reti (show decode cX3_addGang 56 = .ok (.ireturn, 1) by decide +kernel) rfl) rfl sb_nil))))))))))))))))))))
  ms_nil))))
def kX3_greatestWorth (X : px_X) : px_B := [(0, [], [px_aload 0, px_cV X 35 1 3, px_aload 0, px_getf 3 8, px_reti], 9)]
set_option maxRecDepth 100000 in
set_option maxHeartbeats 8000000 in
theorem sX3_greatestWorth (d : Nat) (X : px_X) : px_MS d X YX3_greatestWorth (kX3_greatestWorth X) :=
  (ms_cons
  (sb_cons (pc2 := 1) (sx_aload_n (show decode cX3_greatestWorth 0 = .ok (.aload_n 0, 1) by decide +kernel) rfl) rfl
    (sb_cons (pc2 := 4) (sx_cV (Y' := YX3_planIfNew) (q := (RX3, TX3, 10)) rfl (show decode cX3_greatestWorth 1 = .ok (.invokevirtual 48, 3) by decide +kernel) rfl rfl (px_w4 wd_117 wd_118 wd_119 wd_120) wd_116 ⟨by decide, by decide, by decide +kernel⟩ (by decide)) rfl
    (sb_cons (pc2 := 5) (sx_aload_n (show decode cX3_greatestWorth 4 = .ok (.aload_n 0, 1) by decide +kernel) rfl) rfl
    (sb_cons (pc2 := 8) (sx_getf (show decode cX3_greatestWorth 5 = .ok (.getfield 39, 3) by decide +kernel) rfl iX3 (by decide) wd_112) rfl
    (sb_cons (pc2 := 9) (sx_reti (show decode cX3_greatestWorth 8 = .ok (.ireturn, 1) by decide +kernel) rfl) rfl sb_nil)))))
  ms_nil)
def kX3_gangOf (X : px_X) : px_B := [(0, [], [px_iload 1, px_if1 (fun x => decide (x < 0)) 12, px_iload 1, px_aload 0, px_getf 3 0, px_if2 (fun x y => decide (x < y)) 15], 12),
  (12, [false, false], [px_push (.int (-2)), px_reti], 15),
  (15, [true, true], [px_aload 0, px_cV X 35 1 3, px_aload 0, px_getf 3 9, px_iload 1, px_iald 0, px_reti], 26)]
set_option maxRecDepth 100000 in
set_option maxHeartbeats 8000000 in
theorem sX3_gangOf (d : Nat) (X : px_X) : px_MS d X YX3_gangOf (kX3_gangOf X) :=
  (ms_cons
  (sb_cons (pc2 := 1) (sx_iload_n (show decode cX3_gangOf 0 = .ok (.iload_n 1, 1) by decide +kernel) rfl) rfl
    (sb_cons (pc2 := 4) (sx_if_lt (show decode cX3_gangOf 1 = .ok (.ifCond .lt 11, 3) by decide +kernel) (by decide)) rfl
    (sb_cons (pc2 := 5) (sx_iload_n (show decode cX3_gangOf 4 = .ok (.iload_n 1, 1) by decide +kernel) rfl) rfl
    (sb_cons (pc2 := 6) (sx_aload_n (show decode cX3_gangOf 5 = .ok (.aload_n 0, 1) by decide +kernel) rfl) rfl
    (sb_cons (pc2 := 9) (sx_getf (show decode cX3_gangOf 6 = .ok (.getfield 11, 3) by decide +kernel) rfl iX3 (by decide) wd_103) rfl
    (sb_cons (pc2 := 12) (sx_icmp_lt (show decode cX3_gangOf 9 = .ok (.if_icmp .lt 6, 3) by decide +kernel) (by decide)) rfl sb_nil))))))
  (ms_cons
  (sb_cons (pc2 := 14) (sx_bipush (show decode cX3_gangOf 12 = .ok (.bipush (-2), 2) by decide +kernel) (by decide)) rfl
    (sb_cons (pc2 := 15) (sx_reti (show decode cX3_gangOf 14 = .ok (.ireturn, 1) by decide +kernel) rfl) rfl sb_nil))
  (ms_cons
  (sb_cons (pc2 := 16) (sx_aload_n (show decode cX3_gangOf 15 = .ok (.aload_n 0, 1) by decide +kernel) rfl) rfl
    (sb_cons (pc2 := 19) (sx_cV (Y' := YX3_planIfNew) (q := (RX3, TX3, 10)) rfl (show decode cX3_gangOf 16 = .ok (.invokevirtual 48, 3) by decide +kernel) rfl rfl (px_w4 wd_117 wd_118 wd_119 wd_120) wd_116 ⟨by decide, by decide, by decide +kernel⟩ (by decide)) rfl
    (sb_cons (pc2 := 20) (sx_aload_n (show decode cX3_gangOf 19 = .ok (.aload_n 0, 1) by decide +kernel) rfl) rfl
    (sb_cons (pc2 := 23) (sx_getf (show decode cX3_gangOf 20 = .ok (.getfield 42, 3) by decide +kernel) rfl iX3 (by decide) wd_113) rfl
    (sb_cons (pc2 := 24) (sx_iload_n (show decode cX3_gangOf 23 = .ok (.iload_n 1, 1) by decide +kernel) rfl) rfl
    (sb_cons (pc2 := 25) (sx_iald (show decode cX3_gangOf 24 = .ok (.iaload, 1) by decide +kernel)) rfl
    (sb_cons (pc2 := 26) (sx_reti (show decode cX3_gangOf 25 = .ok (.ireturn, 1) by decide +kernel) rfl) rfl sb_nil)))))))
  ms_nil)))
def kX3_planIfNew (X : px_X) : px_B := [(0, [], [px_aload 0, px_getf 3 7, px_if1 (fun x => decide (x = 0)) 8, px_retv], 8),
  (8, [true, false, false], [px_push (.int 1), px_aload 0, px_getf 3 0, (px_i2 fun x y => x <<< (y &&& 31)), px_push (.int 1), (px_i2 fun x y => x - y), px_istore 1, px_push (.int 0), px_istore 2], 19),
  (19, [true, true, true], [px_iload 2, px_iload 1, px_if2 (fun x y => decide (y < x)) 46, px_aload 0, px_getf 3 6, px_iload 2, px_push (.int (-4)), px_aload 0, px_getf 3 4, px_iload 2, px_iald 0, (px_i2 fun x y => x * y), px_i2l, px_last, px_iinc 2 1, px_goto 19], 46),
  (46, [true, true, false], [px_aload 0, px_getf 3 1, px_push (.int 1), (px_i2 fun x y => x - y), px_istore 2], 53),
  (53, [true, true, true], [px_iload 2, px_if1 (fun x => decide (x < 0)) 69, px_aload 0, px_iload 2, px_iload 1, px_cV X 36 3 3, px_iinc 2 (-1), px_goto 53], 69),
  (69, [true, true, false], [px_aload 0, px_aload 0, px_getf 3 6, px_iload 1, px_lald, px_cV X 37 2 3, px_aload 0, px_push (.int 1), px_putz 3 7, px_retv], 85)]
set_option maxRecDepth 100000 in
set_option maxHeartbeats 8000000 in
theorem sX3_planIfNew (d : Nat) (X : px_X) : px_MS d X YX3_planIfNew (kX3_planIfNew X) :=
  (ms_cons
  (sb_cons (pc2 := 1) (sx_aload_n (show decode cX3_planIfNew 0 = .ok (.aload_n 0, 1) by decide +kernel) rfl) rfl
    (sb_cons (pc2 := 4) (sx_getf (show decode cX3_planIfNew 1 = .ok (.getfield 35, 3) by decide +kernel) rfl iX3 (by decide) wd_111) rfl
    (sb_cons (pc2 := 7) (sx_if_eq (show decode cX3_planIfNew 4 = .ok (.ifCond .eq 4, 3) by decide +kernel) (by decide)) rfl
    (sb_cons (pc2 := 8) (sx_retv (show decode cX3_planIfNew 7 = .ok (.return_, 1) by decide +kernel) rfl) rfl sb_nil))))
  (ms_cons
  (sb_cons (pc2 := 9) (sx_iconst (show decode cX3_planIfNew 8 = .ok (.iconst 1, 1) by decide +kernel) (by decide)) rfl
    (sb_cons (pc2 := 10) (sx_aload_n (show decode cX3_planIfNew 9 = .ok (.aload_n 0, 1) by decide +kernel) rfl) rfl
    (sb_cons (pc2 := 13) (sx_getf (show decode cX3_planIfNew 10 = .ok (.getfield 11, 3) by decide +kernel) rfl iX3 (by decide) wd_103) rfl
    (sb_cons (pc2 := 14) (sx_ishl (show decode cX3_planIfNew 13 = .ok (.ishl, 1) by decide +kernel)) rfl
    (sb_cons (pc2 := 15) (sx_iconst (show decode cX3_planIfNew 14 = .ok (.iconst 1, 1) by decide +kernel) (by decide)) rfl
    (sb_cons (pc2 := 16) (sx_isub (show decode cX3_planIfNew 15 = .ok (.isub, 1) by decide +kernel)) rfl
    (sb_cons (pc2 := 17) (sx_istore_n (show decode cX3_planIfNew 16 = .ok (.istore_n 1, 1) by decide +kernel) rfl) rfl
    (sb_cons (pc2 := 18) (sx_iconst (show decode cX3_planIfNew 17 = .ok (.iconst 0, 1) by decide +kernel) (by decide)) rfl
    (sb_cons (pc2 := 19) (sx_istore_n (show decode cX3_planIfNew 18 = .ok (.istore_n 2, 1) by decide +kernel) rfl) rfl sb_nil)))))))))
  (ms_cons
  (sb_cons (pc2 := 20) (sx_iload_n (show decode cX3_planIfNew 19 = .ok (.iload_n 2, 1) by decide +kernel) rfl) rfl
    (sb_cons (pc2 := 21) (sx_iload_n (show decode cX3_planIfNew 20 = .ok (.iload_n 1, 1) by decide +kernel) rfl) rfl
    (sb_cons (pc2 := 24) (sx_icmp_gt (show decode cX3_planIfNew 21 = .ok (.if_icmp .gt 25, 3) by decide +kernel) (by decide)) rfl
    (sb_cons (pc2 := 25) (sx_aload_n (show decode cX3_planIfNew 24 = .ok (.aload_n 0, 1) by decide +kernel) rfl) rfl
    (sb_cons (pc2 := 28) (sx_getf (show decode cX3_planIfNew 25 = .ok (.getfield 32, 3) by decide +kernel) rfl iX3 (by decide) wd_110) rfl
    (sb_cons (pc2 := 29) (sx_iload_n (show decode cX3_planIfNew 28 = .ok (.iload_n 2, 1) by decide +kernel) rfl) rfl
    (sb_cons (pc2 := 31) (sx_bipush (show decode cX3_planIfNew 29 = .ok (.bipush (-4), 2) by decide +kernel) (by decide)) rfl
    (sb_cons (pc2 := 32) (sx_aload_n (show decode cX3_planIfNew 31 = .ok (.aload_n 0, 1) by decide +kernel) rfl) rfl
    (sb_cons (pc2 := 35) (sx_getf (show decode cX3_planIfNew 32 = .ok (.getfield 25, 3) by decide +kernel) rfl iX3 (by decide) wd_107) rfl
    (sb_cons (pc2 := 36) (sx_iload_n (show decode cX3_planIfNew 35 = .ok (.iload_n 2, 1) by decide +kernel) rfl) rfl
    (sb_cons (pc2 := 37) (sx_iald (show decode cX3_planIfNew 36 = .ok (.iaload, 1) by decide +kernel)) rfl
    (sb_cons (pc2 := 38) (sx_imul (show decode cX3_planIfNew 37 = .ok (.imul, 1) by decide +kernel)) rfl
    (sb_cons (pc2 := 39) (sx_i2l (show decode cX3_planIfNew 38 = .ok (.i2l, 1) by decide +kernel)) rfl
    (sb_cons (pc2 := 40) (sx_last (show decode cX3_planIfNew 39 = .ok (.lastore, 1) by decide +kernel)) rfl
    (sb_cons (pc2 := 43) (sx_iinc (show decode cX3_planIfNew 40 = .ok (.iinc 2 1, 3) by decide +kernel) (by decide)) rfl
    (sb_cons (pc2 := 46) (px_snd_goto (show decode cX3_planIfNew 43 = .ok (.goto (-24), 3) by decide +kernel) (by decide)) rfl sb_nil))))))))))))))))
  (ms_cons
  (sb_cons (pc2 := 47) (sx_aload_n (show decode cX3_planIfNew 46 = .ok (.aload_n 0, 1) by decide +kernel) rfl) rfl
    (sb_cons (pc2 := 50) (sx_getf (show decode cX3_planIfNew 47 = .ok (.getfield 15, 3) by decide +kernel) rfl iX3 (by decide) wd_104) rfl
    (sb_cons (pc2 := 51) (sx_iconst (show decode cX3_planIfNew 50 = .ok (.iconst 1, 1) by decide +kernel) (by decide)) rfl
    (sb_cons (pc2 := 52) (sx_isub (show decode cX3_planIfNew 51 = .ok (.isub, 1) by decide +kernel)) rfl
    (sb_cons (pc2 := 53) (sx_istore_n (show decode cX3_planIfNew 52 = .ok (.istore_n 2, 1) by decide +kernel) rfl) rfl sb_nil)))))
  (ms_cons
  (sb_cons (pc2 := 54) (sx_iload_n (show decode cX3_planIfNew 53 = .ok (.iload_n 2, 1) by decide +kernel) rfl) rfl
    (sb_cons (pc2 := 57) (sx_if_lt (show decode cX3_planIfNew 54 = .ok (.ifCond .lt 15, 3) by decide +kernel) (by decide)) rfl
    (sb_cons (pc2 := 58) (sx_aload_n (show decode cX3_planIfNew 57 = .ok (.aload_n 0, 1) by decide +kernel) rfl) rfl
    (sb_cons (pc2 := 59) (sx_iload_n (show decode cX3_planIfNew 58 = .ok (.iload_n 2, 1) by decide +kernel) rfl) rfl
    (sb_cons (pc2 := 60) (sx_iload_n (show decode cX3_planIfNew 59 = .ok (.iload_n 1, 1) by decide +kernel) rfl) rfl
    (sb_cons (pc2 := 63) (sx_cV (Y' := YX3_giveToGang) (q := (RX3, TX3, 10)) rfl (show decode cX3_planIfNew 60 = .ok (.invokevirtual 51, 3) by decide +kernel) rfl rfl (px_w4 wd_122 wd_123 wd_124 wd_120) wd_121 ⟨by decide, by decide, by decide +kernel⟩ (by decide)) rfl
    (sb_cons (pc2 := 66) (sx_iinc (show decode cX3_planIfNew 63 = .ok (.iinc 2 (-1), 3) by decide +kernel) (by decide)) rfl
    (sb_cons (pc2 := 69) (px_snd_goto (show decode cX3_planIfNew 66 = .ok (.goto (-13), 3) by decide +kernel) (by decide)) rfl sb_nil))))))))
  (ms_cons
  (sb_cons (pc2 := 70) (sx_aload_n (show decode cX3_planIfNew 69 = .ok (.aload_n 0, 1) by decide +kernel) rfl) rfl
    (sb_cons (pc2 := 71) (sx_aload_n (show decode cX3_planIfNew 70 = .ok (.aload_n 0, 1) by decide +kernel) rfl) rfl
    (sb_cons (pc2 := 74) (sx_getf (show decode cX3_planIfNew 71 = .ok (.getfield 32, 3) by decide +kernel) rfl iX3 (by decide) wd_110) rfl
    (sb_cons (pc2 := 75) (sx_iload_n (show decode cX3_planIfNew 74 = .ok (.iload_n 1, 1) by decide +kernel) rfl) rfl
    (sb_cons (pc2 := 76) (sx_lald (show decode cX3_planIfNew 75 = .ok (.laload, 1) by decide +kernel)) rfl
    (sb_cons (pc2 := 79) (sx_cV (Y' := YX3_keepPlan) (q := (RX3, TX3, 10)) rfl (show decode cX3_planIfNew 76 = .ok (.invokevirtual 55, 3) by decide +kernel) rfl rfl (px_w4 wd_126 wd_127 wd_128 wd_120) wd_125 ⟨by decide, by decide, by decide +kernel⟩ (by decide)) rfl
    (sb_cons (pc2 := 80) (sx_aload_n (show decode cX3_planIfNew 79 = .ok (.aload_n 0, 1) by decide +kernel) rfl) rfl
    (sb_cons (pc2 := 81) (sx_iconst (show decode cX3_planIfNew 80 = .ok (.iconst 1, 1) by decide +kernel) (by decide)) rfl
    (sb_cons (pc2 := 84) (sx_putz (show decode cX3_planIfNew 81 = .ok (.putfield 35, 3) by decide +kernel) rfl iX3 tyX3_ok nmX3 (by decide) wd_111 rfl rfl) rfl
    (sb_cons (pc2 := 85) (sx_retv (show decode cX3_planIfNew 84 = .ok (.return_, 1) by decide +kernel) rfl) rfl sb_nil))))))))))
  ms_nil))))))
def kX3_giveToGang (X : px_X) : px_B := [(0, [], [px_iload 2, px_istore 3], 2),
  (2, [true, true, false, true, false, false, false, false, false], [px_iload 3, px_if1 (fun x => decide (x ≤ 0)) 102, px_aload 0, px_getf 3 6, px_iload 3, px_lald, px_lstore 4, px_iload 3, px_istore 6], 17),
  (17, [true, true, false, true, true, false, true, false, false], [px_iload 6, px_if1 (fun x => decide (x ≤ 0)) 88, px_aload 0, px_getf 3 3, px_iload 6, px_iald 0, px_aload 0, px_getf 3 2, px_iload 1, px_iald 0, px_if2 (fun x y => decide (y < x)) 77, px_aload 0, px_getf 3 5, px_iload 6, px_lald, px_iload 1, px_aload 0, px_getf 3 4, px_iload 6, px_iald 0, (px_i2 fun x y => x * y), px_i2l, (px_l2 fun x y => x - y), px_aload 0, px_getf 3 6, px_iload 3, px_iload 6, (px_i2 fun x y => x - y), px_lald, (px_l2 fun x y => x + y), px_lstore 7, px_lload 4, px_lload 7, (px_l2m fun x y => if y < x then x else y), px_lstore 4], 77),
  (77, [true, true, false, true, true, false, true, false, false], [px_iload 6, px_push (.int 1), (px_i2 fun x y => x - y), px_iload 3, (px_i2 fun x y => x &&& y), px_istore 6, px_goto 17], 88),
  (88, [true, true, false, true, true, false, false, false, false], [px_aload 0, px_getf 3 6, px_iload 3, px_lload 4, px_last, px_iinc 3 (-1), px_goto 2], 102),
  (102, [false, false, false, false, false, false, false, false, false], [px_retv], 103)]
set_option maxRecDepth 100000 in
set_option maxHeartbeats 8000000 in
theorem sX3_giveToGang (d : Nat) (X : px_X) : px_MS d X YX3_giveToGang (kX3_giveToGang X) :=
  (ms_cons
  (sb_cons (pc2 := 1) (sx_iload_n (show decode cX3_giveToGang 0 = .ok (.iload_n 2, 1) by decide +kernel) rfl) rfl
    (sb_cons (pc2 := 2) (sx_istore_n (show decode cX3_giveToGang 1 = .ok (.istore_n 3, 1) by decide +kernel) rfl) rfl sb_nil))
  (ms_cons
  (sb_cons (pc2 := 3) (sx_iload_n (show decode cX3_giveToGang 2 = .ok (.iload_n 3, 1) by decide +kernel) rfl) rfl
    (sb_cons (pc2 := 6) (sx_if_le (show decode cX3_giveToGang 3 = .ok (.ifCond .le 99, 3) by decide +kernel) (by decide)) rfl
    (sb_cons (pc2 := 7) (sx_aload_n (show decode cX3_giveToGang 6 = .ok (.aload_n 0, 1) by decide +kernel) rfl) rfl
    (sb_cons (pc2 := 10) (sx_getf (show decode cX3_giveToGang 7 = .ok (.getfield 32, 3) by decide +kernel) rfl iX3 (by decide) wd_110) rfl
    (sb_cons (pc2 := 11) (sx_iload_n (show decode cX3_giveToGang 10 = .ok (.iload_n 3, 1) by decide +kernel) rfl) rfl
    (sb_cons (pc2 := 12) (sx_lald (show decode cX3_giveToGang 11 = .ok (.laload, 1) by decide +kernel)) rfl
    (sb_cons (pc2 := 14) (sx_lstore (show decode cX3_giveToGang 12 = .ok (.lstore 4, 2) by decide +kernel)) rfl
    (sb_cons (pc2 := 15) (sx_iload_n (show decode cX3_giveToGang 14 = .ok (.iload_n 3, 1) by decide +kernel) rfl) rfl
    (sb_cons (pc2 := 17) (sx_istore (show decode cX3_giveToGang 15 = .ok (.istore 6, 2) by decide +kernel)) rfl sb_nil)))))))))
  (ms_cons
  (sb_cons (pc2 := 19) (sx_iload (show decode cX3_giveToGang 17 = .ok (.iload 6, 2) by decide +kernel)) rfl
    (sb_cons (pc2 := 22) (sx_if_le (show decode cX3_giveToGang 19 = .ok (.ifCond .le 69, 3) by decide +kernel) (by decide)) rfl
    (sb_cons (pc2 := 23) (sx_aload_n (show decode cX3_giveToGang 22 = .ok (.aload_n 0, 1) by decide +kernel) rfl) rfl
    (sb_cons (pc2 := 26) (sx_getf (show decode cX3_giveToGang 23 = .ok (.getfield 22, 3) by decide +kernel) rfl iX3 (by decide) wd_106) rfl
    (sb_cons (pc2 := 28) (sx_iload (show decode cX3_giveToGang 26 = .ok (.iload 6, 2) by decide +kernel)) rfl
    (sb_cons (pc2 := 29) (sx_iald (show decode cX3_giveToGang 28 = .ok (.iaload, 1) by decide +kernel)) rfl
    (sb_cons (pc2 := 30) (sx_aload_n (show decode cX3_giveToGang 29 = .ok (.aload_n 0, 1) by decide +kernel) rfl) rfl
    (sb_cons (pc2 := 33) (sx_getf (show decode cX3_giveToGang 30 = .ok (.getfield 18, 3) by decide +kernel) rfl iX3 (by decide) wd_105) rfl
    (sb_cons (pc2 := 34) (sx_iload_n (show decode cX3_giveToGang 33 = .ok (.iload_n 1, 1) by decide +kernel) rfl) rfl
    (sb_cons (pc2 := 35) (sx_iald (show decode cX3_giveToGang 34 = .ok (.iaload, 1) by decide +kernel)) rfl
    (sb_cons (pc2 := 38) (sx_icmp_gt (show decode cX3_giveToGang 35 = .ok (.if_icmp .gt 42, 3) by decide +kernel) (by decide)) rfl
    (sb_cons (pc2 := 39) (sx_aload_n (show decode cX3_giveToGang 38 = .ok (.aload_n 0, 1) by decide +kernel) rfl) rfl
    (sb_cons (pc2 := 42) (sx_getf (show decode cX3_giveToGang 39 = .ok (.getfield 28, 3) by decide +kernel) rfl iX3 (by decide) wd_109) rfl
    (sb_cons (pc2 := 44) (sx_iload (show decode cX3_giveToGang 42 = .ok (.iload 6, 2) by decide +kernel)) rfl
    (sb_cons (pc2 := 45) (sx_lald (show decode cX3_giveToGang 44 = .ok (.laload, 1) by decide +kernel)) rfl
    (sb_cons (pc2 := 46) (sx_iload_n (show decode cX3_giveToGang 45 = .ok (.iload_n 1, 1) by decide +kernel) rfl) rfl
    (sb_cons (pc2 := 47) (sx_aload_n (show decode cX3_giveToGang 46 = .ok (.aload_n 0, 1) by decide +kernel) rfl) rfl
    (sb_cons (pc2 := 50) (sx_getf (show decode cX3_giveToGang 47 = .ok (.getfield 25, 3) by decide +kernel) rfl iX3 (by decide) wd_107) rfl
    (sb_cons (pc2 := 52) (sx_iload (show decode cX3_giveToGang 50 = .ok (.iload 6, 2) by decide +kernel)) rfl
    (sb_cons (pc2 := 53) (sx_iald (show decode cX3_giveToGang 52 = .ok (.iaload, 1) by decide +kernel)) rfl
    (sb_cons (pc2 := 54) (sx_imul (show decode cX3_giveToGang 53 = .ok (.imul, 1) by decide +kernel)) rfl
    (sb_cons (pc2 := 55) (sx_i2l (show decode cX3_giveToGang 54 = .ok (.i2l, 1) by decide +kernel)) rfl
    (sb_cons (pc2 := 56) (sx_lsub (show decode cX3_giveToGang 55 = .ok (.lsub, 1) by decide +kernel)) rfl
    (sb_cons (pc2 := 57) (sx_aload_n (show decode cX3_giveToGang 56 = .ok (.aload_n 0, 1) by decide +kernel) rfl) rfl
    (sb_cons (pc2 := 60) (sx_getf (show decode cX3_giveToGang 57 = .ok (.getfield 32, 3) by decide +kernel) rfl iX3 (by decide) wd_110) rfl
    (sb_cons (pc2 := 61) (sx_iload_n (show decode cX3_giveToGang 60 = .ok (.iload_n 3, 1) by decide +kernel) rfl) rfl
    (sb_cons (pc2 := 63) (sx_iload (show decode cX3_giveToGang 61 = .ok (.iload 6, 2) by decide +kernel)) rfl
    (sb_cons (pc2 := 64) (sx_isub (show decode cX3_giveToGang 63 = .ok (.isub, 1) by decide +kernel)) rfl
    (sb_cons (pc2 := 65) (sx_lald (show decode cX3_giveToGang 64 = .ok (.laload, 1) by decide +kernel)) rfl
    (sb_cons (pc2 := 66) (sx_ladd (show decode cX3_giveToGang 65 = .ok (.ladd, 1) by decide +kernel)) rfl
    (sb_cons (pc2 := 68) (sx_lstore (show decode cX3_giveToGang 66 = .ok (.lstore 7, 2) by decide +kernel)) rfl
    (sb_cons (pc2 := 70) (sx_lload (show decode cX3_giveToGang 68 = .ok (.lload 4, 2) by decide +kernel)) rfl
    (sb_cons (pc2 := 72) (sx_lload (show decode cX3_giveToGang 70 = .ok (.lload 7, 2) by decide +kernel)) rfl
    (sb_cons (pc2 := 75) (sx_lmax (show decode cX3_giveToGang 72 = .ok (.invokestatic 59, 3) by decide +kernel) wd_129 wd_130 wd_67 wd_131) rfl
    (sb_cons (pc2 := 77) (sx_lstore (show decode cX3_giveToGang 75 = .ok (.lstore 4, 2) by decide +kernel)) rfl sb_nil)))))))))))))))))))))))))))))))))))
  (ms_cons
  (sb_cons (pc2 := 79) (sx_iload (show decode cX3_giveToGang 77 = .ok (.iload 6, 2) by decide +kernel)) rfl
    (sb_cons (pc2 := 80) (sx_iconst (show decode cX3_giveToGang 79 = .ok (.iconst 1, 1) by decide +kernel) (by decide)) rfl
    (sb_cons (pc2 := 81) (sx_isub (show decode cX3_giveToGang 80 = .ok (.isub, 1) by decide +kernel)) rfl
    (sb_cons (pc2 := 82) (sx_iload_n (show decode cX3_giveToGang 81 = .ok (.iload_n 3, 1) by decide +kernel) rfl) rfl
    (sb_cons (pc2 := 83) (sx_iand (show decode cX3_giveToGang 82 = .ok (.iand, 1) by decide +kernel)) rfl
    (sb_cons (pc2 := 85) (sx_istore (show decode cX3_giveToGang 83 = .ok (.istore 6, 2) by decide +kernel)) rfl
    (sb_cons (pc2 := 88) (px_snd_goto (show decode cX3_giveToGang 85 = .ok (.goto (-68), 3) by decide +kernel) (by decide)) rfl sb_nil)))))))
  (ms_cons
  (sb_cons (pc2 := 89) (sx_aload_n (show decode cX3_giveToGang 88 = .ok (.aload_n 0, 1) by decide +kernel) rfl) rfl
    (sb_cons (pc2 := 92) (sx_getf (show decode cX3_giveToGang 89 = .ok (.getfield 32, 3) by decide +kernel) rfl iX3 (by decide) wd_110) rfl
    (sb_cons (pc2 := 93) (sx_iload_n (show decode cX3_giveToGang 92 = .ok (.iload_n 3, 1) by decide +kernel) rfl) rfl
    (sb_cons (pc2 := 95) (sx_lload (show decode cX3_giveToGang 93 = .ok (.lload 4, 2) by decide +kernel)) rfl
    (sb_cons (pc2 := 96) (sx_last (show decode cX3_giveToGang 95 = .ok (.lastore, 1) by decide +kernel)) rfl
    (sb_cons (pc2 := 99) (sx_iinc (show decode cX3_giveToGang 96 = .ok (.iinc 3 (-1), 3) by decide +kernel) (by decide)) rfl
    (sb_cons (pc2 := 102) (px_snd_goto (show decode cX3_giveToGang 99 = .ok (.goto (-97), 3) by decide +kernel) (by decide)) rfl sb_nil)))))))
  (ms_cons
  (sb_cons (pc2 := 103) (sx_retv (show decode cX3_giveToGang 102 = .ok (.return_, 1) by decide +kernel) rfl) rfl sb_nil)
  ms_nil))))))
def kX3_keepPlan (X : px_X) : px_B := [(0, [], [px_aload 0, px_lload 1, px_push (.long 1953125), (px_l2 fun x y => x + y), px_push (.long 1), (px_l2 fun x y => x - y), px_push (.long 1953125), (px_l2d fun x y => x / y), px_l2i, px_puti 3 8, px_aload 0, px_getf 3 8, px_i2l, px_push (.long 1953125), (px_l2 fun x y => x * y), px_lload 1, (px_l2 fun x y => x - y), px_l2i, px_istore 3, px_push (.int 390625), px_istore 4, px_push (.int 0), px_istore 5], 36),
  (36, [true, false, false, true, true, true, false], [px_iload 5, px_aload 0, px_getf 3 0, px_if2 (fun x y => decide (y ≤ x)) 89, px_iload 4, px_if1 (fun x => decide (x ≤ 0)) 89, px_iload 3, px_iload 4, (px_i2d fun x y => x / y), px_push (.int 5), (px_i2d fun x y => x - x / y * y), px_istore 6, px_aload 0, px_getf 3 9, px_iload 5, px_iload 6, px_push (.int 4), px_if2 (fun x y => decide (¬ x = y)) 74, px_push (.int (-1)), px_goto 76], 74),
  (74, [true, false, false, true, true, true, true], [px_iload 6], 76),
  (76, [true, false, false, true, true, true, false], [px_iast 0, px_iload 4, px_push (.int 5), (px_i2d fun x y => x / y), px_istore 4, px_iinc 5 1, px_goto 36], 89),
  (89, [false, false, false, false, false, false, false], [px_retv], 90)]
set_option maxRecDepth 100000 in
set_option maxHeartbeats 8000000 in
theorem sX3_keepPlan (d : Nat) (X : px_X) : px_MS d X YX3_keepPlan (kX3_keepPlan X) :=
  (ms_cons
  (sb_cons (pc2 := 1) (sx_aload_n (show decode cX3_keepPlan 0 = .ok (.aload_n 0, 1) by decide +kernel) rfl) rfl
    (sb_cons (pc2 := 2) (sx_lload_n (show decode cX3_keepPlan 1 = .ok (.lload_n 1, 1) by decide +kernel) rfl) rfl
    (sb_cons (pc2 := 5) (sx_ldc2 (show decode cX3_keepPlan 2 = .ok (.ldc2_w 46, 3) by decide +kernel) wd_115) rfl
    (sb_cons (pc2 := 6) (sx_ladd (show decode cX3_keepPlan 5 = .ok (.ladd, 1) by decide +kernel)) rfl
    (sb_cons (pc2 := 7) (sx_lconst (show decode cX3_keepPlan 6 = .ok (.lconst 1, 1) by decide +kernel) (by decide)) rfl
    (sb_cons (pc2 := 8) (sx_lsub (show decode cX3_keepPlan 7 = .ok (.lsub, 1) by decide +kernel)) rfl
    (sb_cons (pc2 := 11) (sx_ldc2 (show decode cX3_keepPlan 8 = .ok (.ldc2_w 46, 3) by decide +kernel) wd_115) rfl
    (sb_cons (pc2 := 12) (sx_ldiv (show decode cX3_keepPlan 11 = .ok (.ldiv, 1) by decide +kernel)) rfl
    (sb_cons (pc2 := 13) (sx_l2i (show decode cX3_keepPlan 12 = .ok (.l2i, 1) by decide +kernel)) rfl
    (sb_cons (pc2 := 16) (sx_puti (show decode cX3_keepPlan 13 = .ok (.putfield 39, 3) by decide +kernel) rfl iX3 tyX3_ok nmX3 (by decide) wd_112 rfl (Or.inl rfl)) rfl
    (sb_cons (pc2 := 17) (sx_aload_n (show decode cX3_keepPlan 16 = .ok (.aload_n 0, 1) by decide +kernel) rfl) rfl
    (sb_cons (pc2 := 20) (sx_getf (show decode cX3_keepPlan 17 = .ok (.getfield 39, 3) by decide +kernel) rfl iX3 (by decide) wd_112) rfl
    (sb_cons (pc2 := 21) (sx_i2l (show decode cX3_keepPlan 20 = .ok (.i2l, 1) by decide +kernel)) rfl
    (sb_cons (pc2 := 24) (sx_ldc2 (show decode cX3_keepPlan 21 = .ok (.ldc2_w 46, 3) by decide +kernel) wd_115) rfl
    (sb_cons (pc2 := 25) (sx_lmul (show decode cX3_keepPlan 24 = .ok (.lmul, 1) by decide +kernel)) rfl
    (sb_cons (pc2 := 26) (sx_lload_n (show decode cX3_keepPlan 25 = .ok (.lload_n 1, 1) by decide +kernel) rfl) rfl
    (sb_cons (pc2 := 27) (sx_lsub (show decode cX3_keepPlan 26 = .ok (.lsub, 1) by decide +kernel)) rfl
    (sb_cons (pc2 := 28) (sx_l2i (show decode cX3_keepPlan 27 = .ok (.l2i, 1) by decide +kernel)) rfl
    (sb_cons (pc2 := 29) (sx_istore_n (show decode cX3_keepPlan 28 = .ok (.istore_n 3, 1) by decide +kernel) rfl) rfl
    (sb_cons (pc2 := 31) (sx_ldc (show decode cX3_keepPlan 29 = .ok (.ldc 45, 2) by decide +kernel) wd_114) rfl
    (sb_cons (pc2 := 33) (sx_istore (show decode cX3_keepPlan 31 = .ok (.istore 4, 2) by decide +kernel)) rfl
    (sb_cons (pc2 := 34) (sx_iconst (show decode cX3_keepPlan 33 = .ok (.iconst 0, 1) by decide +kernel) (by decide)) rfl
    (sb_cons (pc2 := 36) (sx_istore (show decode cX3_keepPlan 34 = .ok (.istore 5, 2) by decide +kernel)) rfl sb_nil)))))))))))))))))))))))
  (ms_cons
  (sb_cons (pc2 := 38) (sx_iload (show decode cX3_keepPlan 36 = .ok (.iload 5, 2) by decide +kernel)) rfl
    (sb_cons (pc2 := 39) (sx_aload_n (show decode cX3_keepPlan 38 = .ok (.aload_n 0, 1) by decide +kernel) rfl) rfl
    (sb_cons (pc2 := 42) (sx_getf (show decode cX3_keepPlan 39 = .ok (.getfield 11, 3) by decide +kernel) rfl iX3 (by decide) wd_103) rfl
    (sb_cons (pc2 := 45) (sx_icmp_ge (show decode cX3_keepPlan 42 = .ok (.if_icmp .ge 47, 3) by decide +kernel) (by decide)) rfl
    (sb_cons (pc2 := 47) (sx_iload (show decode cX3_keepPlan 45 = .ok (.iload 4, 2) by decide +kernel)) rfl
    (sb_cons (pc2 := 50) (sx_if_le (show decode cX3_keepPlan 47 = .ok (.ifCond .le 42, 3) by decide +kernel) (by decide)) rfl
    (sb_cons (pc2 := 51) (sx_iload_n (show decode cX3_keepPlan 50 = .ok (.iload_n 3, 1) by decide +kernel) rfl) rfl
    (sb_cons (pc2 := 53) (sx_iload (show decode cX3_keepPlan 51 = .ok (.iload 4, 2) by decide +kernel)) rfl
    (sb_cons (pc2 := 54) (sx_idiv (show decode cX3_keepPlan 53 = .ok (.idiv, 1) by decide +kernel)) rfl
    (sb_cons (pc2 := 55) (sx_iconst (show decode cX3_keepPlan 54 = .ok (.iconst 5, 1) by decide +kernel) (by decide)) rfl
    (sb_cons (pc2 := 56) (sx_irem (show decode cX3_keepPlan 55 = .ok (.irem, 1) by decide +kernel)) rfl
    (sb_cons (pc2 := 58) (sx_istore (show decode cX3_keepPlan 56 = .ok (.istore 6, 2) by decide +kernel)) rfl
    (sb_cons (pc2 := 59) (sx_aload_n (show decode cX3_keepPlan 58 = .ok (.aload_n 0, 1) by decide +kernel) rfl) rfl
    (sb_cons (pc2 := 62) (sx_getf (show decode cX3_keepPlan 59 = .ok (.getfield 42, 3) by decide +kernel) rfl iX3 (by decide) wd_113) rfl
    (sb_cons (pc2 := 64) (sx_iload (show decode cX3_keepPlan 62 = .ok (.iload 5, 2) by decide +kernel)) rfl
    (sb_cons (pc2 := 66) (sx_iload (show decode cX3_keepPlan 64 = .ok (.iload 6, 2) by decide +kernel)) rfl
    (sb_cons (pc2 := 67) (sx_iconst (show decode cX3_keepPlan 66 = .ok (.iconst 4, 1) by decide +kernel) (by decide)) rfl
    (sb_cons (pc2 := 70) (sx_icmp_ne (show decode cX3_keepPlan 67 = .ok (.if_icmp .ne 7, 3) by decide +kernel) (by decide)) rfl
    (sb_cons (pc2 := 71) (sx_iconst (show decode cX3_keepPlan 70 = .ok (.iconst (-1), 1) by decide +kernel) (by decide)) rfl
    (sb_cons (pc2 := 74) (px_snd_goto (show decode cX3_keepPlan 71 = .ok (.goto 5, 3) by decide +kernel) (by decide)) rfl sb_nil))))))))))))))))))))
  (ms_cons
  (sb_cons (pc2 := 76) (sx_iload (show decode cX3_keepPlan 74 = .ok (.iload 6, 2) by decide +kernel)) rfl sb_nil)
  (ms_cons
  (sb_cons (pc2 := 77) (sx_iast (show decode cX3_keepPlan 76 = .ok (.iastore, 1) by decide +kernel)) rfl
    (sb_cons (pc2 := 79) (sx_iload (show decode cX3_keepPlan 77 = .ok (.iload 4, 2) by decide +kernel)) rfl
    (sb_cons (pc2 := 80) (sx_iconst (show decode cX3_keepPlan 79 = .ok (.iconst 5, 1) by decide +kernel) (by decide)) rfl
    (sb_cons (pc2 := 81) (sx_idiv (show decode cX3_keepPlan 80 = .ok (.idiv, 1) by decide +kernel)) rfl
    (sb_cons (pc2 := 83) (sx_istore (show decode cX3_keepPlan 81 = .ok (.istore 4, 2) by decide +kernel)) rfl
    (sb_cons (pc2 := 86) (sx_iinc (show decode cX3_keepPlan 83 = .ok (.iinc 5 1, 3) by decide +kernel) (by decide)) rfl
    (sb_cons (pc2 := 89) (px_snd_goto (show decode cX3_keepPlan 86 = .ok (.goto (-50), 3) by decide +kernel) (by decide)) rfl sb_nil)))))))
  (ms_cons
  (sb_cons (pc2 := 90) (sx_retv (show decode cX3_keepPlan 89 = .ok (.return_, 1) by decide +kernel) rfl) rfl sb_nil)
  ms_nil)))))
