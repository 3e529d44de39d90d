/-! the code of methods as pure instructions (written by wip/whole/gen.py) -/
def kX8_init (X : px_X) : px_B := [(0, [], [px_aload 0, px_pop, px_aload 0, px_push (.int 101), px_newi 0, px_putr 8 0, px_aload 0, px_push (.int 0), px_puti 8 1, px_aload 0, px_push (.int 0), px_puti 8 2, px_retv], 23)]
set_option maxRecDepth 100000 in
set_option maxHeartbeats 8000000 in
theorem sX8_init (d : Nat) (X : px_X) : px_MS d X YX8_init (kX8_init X) :=
  (ms_cons
  (sb_cons (pc2 := 1) (sx_aload_n (show decode cX8_init 0 = .ok (.aload_n 0, 1) by decide +kernel) rfl) rfl
    (sb_cons (pc2 := 4) (sx_pop (show decode cX8_init 1 = .ok (.invokespecial 3, 3) by decide +kernel) wd_360 wd_1 wd_2) rfl
    (sb_cons (pc2 := 5) (sx_aload_n (show decode cX8_init 4 = .ok (.aload_n 0, 1) by decide +kernel) rfl) rfl
    (sb_cons (pc2 := 7) (sx_bipush (show decode cX8_init 5 = .ok (.bipush 101, 2) by decide +kernel) (by decide)) rfl
    (sb_cons (pc2 := 9) (sx_newi (t := 0) (show decode cX8_init 7 = .ok (.newarray .int, 2) by decide +kernel) rfl (fun _ => rfl) (Or.inl rfl) wd_17) rfl
    (sb_cons (pc2 := 12) (sx_putr (show decode cX8_init 9 = .ok (.putfield 11, 3) by decide +kernel) rfl iX8 tyX8_ok nmX8 (by decide) wd_361 (Or.inr ⟨_, rfl⟩) (Or.inr ⟨rfl, rfl, rfl⟩)) rfl
    (sb_cons (pc2 := 13) (sx_aload_n (show decode cX8_init 12 = .ok (.aload_n 0, 1) by decide +kernel) rfl) rfl
    (sb_cons (pc2 := 14) (sx_iconst (show decode cX8_init 13 = .ok (.iconst 0, 1) by decide +kernel) (by decide)) rfl
    (sb_cons (pc2 := 17) (sx_puti (show decode cX8_init 14 = .ok (.putfield 15, 3) by decide +kernel) rfl iX8 tyX8_ok nmX8 (by decide) wd_362 rfl (Or.inl rfl)) rfl
    (sb_cons (pc2 := 18) (sx_aload_n (show decode cX8_init 17 = .ok (.aload_n 0, 1) by decide +kernel) rfl) rfl
    (sb_cons (pc2 := 19) (sx_iconst (show decode cX8_init 18 = .ok (.iconst 0, 1) by decide +kernel) (by decide)) rfl
    (sb_cons (pc2 := 22) (sx_puti (show decode cX8_init 19 = .ok (.putfield 19, 3) by decide +kernel) rfl iX8 tyX8_ok nmX8 (by decide) wd_363 rfl (Or.inl rfl)) rfl
    (sb_cons (pc2 := 23) (sx_retv (show decode cX8_init 22 = .ok (.return_, 1) by decide +kernel) rfl) rfl sb_nil)))))))))))))
  ms_nil)
def kX8_match (X : px_X) : px_B := [(0, [], [px_push (.int 0), px_istore 3], 2),
  (2, [true, true, true, true, false, false], [px_iload 3, px_aload 0, px_getf 8 0, px_alen, px_if2 (fun x y => decide (y ≤ x)) 24, px_aload 0, px_getf 8 0, px_iload 3, px_push (.int 0), px_iast 0, px_iinc 3 1, px_goto 2], 24),
  (24, [true, true, true, false, false, false], [px_push (.int 0), px_istore 3], 26),
  (26, [true, true, true, true, false, false], [px_iload 3, px_aload 1, px_getf 2 4, px_if2 (fun x y => decide (y ≤ x)) 102, px_push (.int 0), px_istore 4], 37),
  (37, [true, true, true, true, true, false], [px_iload 4, px_aload 2, px_getf 2 4, px_if2 (fun x y => decide (y ≤ x)) 96, px_aload 2, px_getf 2 5, px_iload 4, px_iald 0, px_aload 1, px_getf 2 5, px_iload 3, px_iald 0, (px_i2 fun x y => x - y), px_istore 5, px_iload 5, px_push (.int (-50)), px_if2 (fun x y => decide (x < y)) 90, px_iload 5, px_push (.int 50), px_if2 (fun x y => decide (y < x)) 90, px_aload 0, px_getf 8 0, px_push (.int 50), px_iload 5, (px_i2 fun x y => x + y), px_dup2, px_iald 0, px_push (.int 1), (px_i2 fun x y => x + y), px_iast 0], 90),
  (90, [true, true, true, true, true, false], [px_iinc 4 1, px_goto 37], 96),
  (96, [true, true, true, true, false, false], [px_iinc 3 1, px_goto 26], 102),
  (102, [true, false, false, false, false, false], [px_aload 0, px_push (.int (-1)), px_puti 8 1, px_push (.int 0), px_istore 3], 109),
  (109, [true, false, false, true, false, false], [px_iload 3, px_push (.int 50), px_if2 (fun x y => decide (y < x)) 132, px_aload 0, px_iload 3, (px_i1 fun x => -x), px_cV X 100 2 8, px_aload 0, px_iload 3, px_cV X 100 2 8, px_iinc 3 1, px_goto 109], 132),
  (132, [false, false, false, false, false, false], [px_retv], 133)]
set_option maxRecDepth 100000 in
set_option maxHeartbeats 8000000 in
theorem sX8_match (d : Nat) (X : px_X) : px_MS d X YX8_match (kX8_match X) :=
  (ms_cons
  (sb_cons (pc2 := 1) (sx_iconst (show decode cX8_match 0 = .ok (.iconst 0, 1) by decide +kernel) (by decide)) rfl
    (sb_cons (pc2 := 2) (sx_istore_n (show decode cX8_match 1 = .ok (.istore_n 3, 1) by decide +kernel) rfl) rfl sb_nil))
  (ms_cons
  (sb_cons (pc2 := 3) (sx_iload_n (show decode cX8_match 2 = .ok (.iload_n 3, 1) by decide +kernel) rfl) rfl
    (sb_cons (pc2 := 4) (sx_aload_n (show decode cX8_match 3 = .ok (.aload_n 0, 1) by decide +kernel) rfl) rfl
    (sb_cons (pc2 := 7) (sx_getf (show decode cX8_match 4 = .ok (.getfield 11, 3) by decide +kernel) rfl iX8 (by decide) wd_361) rfl
    (sb_cons (pc2 := 8) (sx_alen (show decode cX8_match 7 = .ok (.arraylength, 1) by decide +kernel)) rfl
    (sb_cons (pc2 := 11) (sx_icmp_ge (show decode cX8_match 8 = .ok (.if_icmp .ge 16, 3) by decide +kernel) (by decide)) rfl
    (sb_cons (pc2 := 12) (sx_aload_n (show decode cX8_match 11 = .ok (.aload_n 0, 1) by decide +kernel) rfl) rfl
    (sb_cons (pc2 := 15) (sx_getf (show decode cX8_match 12 = .ok (.getfield 11, 3) by decide +kernel) rfl iX8 (by decide) wd_361) rfl
    (sb_cons (pc2 := 16) (sx_iload_n (show decode cX8_match 15 = .ok (.iload_n 3, 1) by decide +kernel) rfl) rfl
    (sb_cons (pc2 := 17) (sx_iconst (show decode cX8_match 16 = .ok (.iconst 0, 1) by decide +kernel) (by decide)) rfl
    (sb_cons (pc2 := 18) (sx_iast (show decode cX8_match 17 = .ok (.iastore, 1) by decide +kernel)) rfl
    (sb_cons (pc2 := 21) (sx_iinc (show decode cX8_match 18 = .ok (.iinc 3 1, 3) by decide +kernel) (by decide)) rfl
    (sb_cons (pc2 := 24) (px_snd_goto (show decode cX8_match 21 = .ok (.goto (-19), 3) by decide +kernel) (by decide)) rfl sb_nil))))))))))))
  (ms_cons
  (sb_cons (pc2 := 25) (sx_iconst (show decode cX8_match 24 = .ok (.iconst 0, 1) by decide +kernel) (by decide)) rfl
    (sb_cons (pc2 := 26) (sx_istore_n (show decode cX8_match 25 = .ok (.istore_n 3, 1) by decide +kernel) rfl) rfl sb_nil))
  (ms_cons
  (sb_cons (pc2 := 27) (sx_iload_n (show decode cX8_match 26 = .ok (.iload_n 3, 1) by decide +kernel) rfl) rfl
    (sb_cons (pc2 := 28) (sx_aload_n (show decode cX8_match 27 = .ok (.aload_n 1, 1) by decide +kernel) rfl) rfl
    (sb_cons (pc2 := 31) (sx_getf (show decode cX8_match 28 = .ok (.getfield 22, 3) by decide +kernel) rfl iX2 (by decide) wd_364) rfl
    (sb_cons (pc2 := 34) (sx_icmp_ge (show decode cX8_match 31 = .ok (.if_icmp .ge 71, 3) by decide +kernel) (by decide)) rfl
    (sb_cons (pc2 := 35) (sx_iconst (show decode cX8_match 34 = .ok (.iconst 0, 1) by decide +kernel) (by decide)) rfl
    (sb_cons (pc2 := 37) (sx_istore (show decode cX8_match 35 = .ok (.istore 4, 2) by decide +kernel)) rfl sb_nil))))))
  (ms_cons
  (sb_cons (pc2 := 39) (sx_iload (show decode cX8_match 37 = .ok (.iload 4, 2) by decide +kernel)) rfl
    (sb_cons (pc2 := 40) (sx_aload_n (show decode cX8_match 39 = .ok (.aload_n 2, 1) by decide +kernel) rfl) rfl
    (sb_cons (pc2 := 43) (sx_getf (show decode cX8_match 40 = .ok (.getfield 22, 3) by decide +kernel) rfl iX2 (by decide) wd_364) rfl
    (sb_cons (pc2 := 46) (sx_icmp_ge (show decode cX8_match 43 = .ok (.if_icmp .ge 53, 3) by decide +kernel) (by decide)) rfl
    (sb_cons (pc2 := 47) (sx_aload_n (show decode cX8_match 46 = .ok (.aload_n 2, 1) by decide +kernel) rfl) rfl
    (sb_cons (pc2 := 50) (sx_getf (show decode cX8_match 47 = .ok (.getfield 27, 3) by decide +kernel) rfl iX2 (by decide) wd_365) rfl
    (sb_cons (pc2 := 52) (sx_iload (show decode cX8_match 50 = .ok (.iload 4, 2) by decide +kernel)) rfl
    (sb_cons (pc2 := 53) (sx_iald (show decode cX8_match 52 = .ok (.iaload, 1) by decide +kernel)) rfl
    (sb_cons (pc2 := 54) (sx_aload_n (show decode cX8_match 53 = .ok (.aload_n 1, 1) by decide +kernel) rfl) rfl
    (sb_cons (pc2 := 57) (sx_getf (show decode cX8_match 54 = .ok (.getfield 27, 3) by decide +kernel) rfl iX2 (by decide) wd_365) rfl
    (sb_cons (pc2 := 58) (sx_iload_n (show decode cX8_match 57 = .ok (.iload_n 3, 1) by decide +kernel) rfl) rfl
    (sb_cons (pc2 := 59) (sx_iald (show decode cX8_match 58 = .ok (.iaload, 1) by decide +kernel)) rfl
    (sb_cons (pc2 := 60) (sx_isub (show decode cX8_match 59 = .ok (.isub, 1) by decide +kernel)) rfl
    (sb_cons (pc2 := 62) (sx_istore (show decode cX8_match 60 = .ok (.istore 5, 2) by decide +kernel)) rfl
    (sb_cons (pc2 := 64) (sx_iload (show decode cX8_match 62 = .ok (.iload 5, 2) by decide +kernel)) rfl
    (sb_cons (pc2 := 66) (sx_bipush (show decode cX8_match 64 = .ok (.bipush (-50), 2) by decide +kernel) (by decide)) rfl
    (sb_cons (pc2 := 69) (sx_icmp_lt (show decode cX8_match 66 = .ok (.if_icmp .lt 24, 3) by decide +kernel) (by decide)) rfl
    (sb_cons (pc2 := 71) (sx_iload (show decode cX8_match 69 = .ok (.iload 5, 2) by decide +kernel)) rfl
    (sb_cons (pc2 := 73) (sx_bipush (show decode cX8_match 71 = .ok (.bipush 50, 2) by decide +kernel) (by decide)) rfl
    (sb_cons (pc2 := 76) (sx_icmp_gt (show decode cX8_match 73 = .ok (.if_icmp .gt 17, 3) by decide +kernel) (by decide)) rfl
    (sb_cons (pc2 := 77) (sx_aload_n (show decode cX8_match 76 = .ok (.aload_n 0, 1) by decide +kernel) rfl) rfl
    (sb_cons (pc2 := 80) (sx_getf (show decode cX8_match 77 = .ok (.getfield 11, 3) by decide +kernel) rfl iX8 (by decide) wd_361) rfl
    (sb_cons (pc2 := 82) (sx_bipush (show decode cX8_match 80 = .ok (.bipush 50, 2) by decide +kernel) (by decide)) rfl
    (sb_cons (pc2 := 84) (sx_iload (show decode cX8_match 82 = .ok (.iload 5, 2) by decide +kernel)) rfl
    (sb_cons (pc2 := 85) (sx_iadd (show decode cX8_match 84 = .ok (.iadd, 1) by decide +kernel)) rfl
    (sb_cons (pc2 := 86) (sx_dup2 (show decode cX8_match 85 = .ok (.dup2, 1) by decide +kernel)) rfl
    (sb_cons (pc2 := 87) (sx_iald (show decode cX8_match 86 = .ok (.iaload, 1) by decide +kernel)) rfl
    (sb_cons (pc2 := 88) (sx_iconst (show decode cX8_match 87 = .ok (.iconst 1, 1) by decide +kernel) (by decide)) rfl
    (sb_cons (pc2 := 89) (sx_iadd (show decode cX8_match 88 = .ok (.iadd, 1) by decide +kernel)) rfl
    (sb_cons (pc2 := 90) (sx_iast (show decode cX8_match 89 = .ok (.iastore, 1) by decide +kernel)) rfl sb_nil))))))))))))))))))))))))))))))
  (ms_cons
  (sb_cons (pc2 := 93) (sx_iinc (show decode cX8_match 90 = .ok (.iinc 4 1, 3) by decide +kernel) (by decide)) rfl
    (sb_cons (pc2 := 96) (px_snd_goto (show decode cX8_match 93 = .ok (.goto (-56), 3) by decide +kernel) (by decide)) rfl sb_nil))
  (ms_cons
  (sb_cons (pc2 := 99) (sx_iinc (show decode cX8_match 96 = .ok (.iinc 3 1, 3) by decide +kernel) (by decide)) rfl
    (sb_cons (pc2 := 102) (px_snd_goto (show decode cX8_match 99 = .ok (.goto (-73), 3) by decide +kernel) (by decide)) rfl sb_nil))
  (ms_cons
  (sb_cons (pc2 := 103) (sx_aload_n (show decode cX8_match 102 = .ok (.aload_n 0, 1) by decide +kernel) rfl) rfl
    (sb_cons (pc2 := 104) (sx_iconst (show decode cX8_match 103 = .ok (.iconst (-1), 1) by decide +kernel) (by decide)) rfl
    (sb_cons (pc2 := 107) (sx_puti (show decode cX8_match 104 = .ok (.putfield 15, 3) by decide +kernel) rfl iX8 tyX8_ok nmX8 (by decide) wd_362 rfl (Or.inl rfl)) rfl
    (sb_cons (pc2 := 108) (sx_iconst (show decode cX8_match 107 = .ok (.iconst 0, 1) by decide +kernel) (by decide)) rfl
    (sb_cons (pc2 := 109) (sx_istore_n (show decode cX8_match 108 = .ok (.istore_n 3, 1) by decide +kernel) rfl) rfl sb_nil)))))
  (ms_cons
  (sb_cons (pc2 := 110) (sx_iload_n (show decode cX8_match 109 = .ok (.iload_n 3, 1) by decide +kernel) rfl) rfl
    (sb_cons (pc2 := 112) (sx_bipush (show decode cX8_match 110 = .ok (.bipush 50, 2) by decide +kernel) (by decide)) rfl
    (sb_cons (pc2 := 115) (sx_icmp_gt (show decode cX8_match 112 = .ok (.if_icmp .gt 20, 3) by decide +kernel) (by decide)) rfl
    (sb_cons (pc2 := 116) (sx_aload_n (show decode cX8_match 115 = .ok (.aload_n 0, 1) by decide +kernel) rfl) rfl
    (sb_cons (pc2 := 117) (sx_iload_n (show decode cX8_match 116 = .ok (.iload_n 3, 1) by decide +kernel) rfl) rfl
    (sb_cons (pc2 := 118) (sx_ineg (show decode cX8_match 117 = .ok (.ineg, 1) by decide +kernel)) rfl
    (sb_cons (pc2 := 121) (sx_cV (Y' := YX8_takeIfGreater) (q := (RX8, TX8, 3)) rfl (show decode cX8_match 118 = .ok (.invokevirtual 30, 3) by decide +kernel) rfl rfl (px_w4 wd_367 wd_368 wd_369 wd_370) wd_366 ⟨by decide, by decide, by decide +kernel⟩ (by decide)) rfl
    (sb_cons (pc2 := 122) (sx_aload_n (show decode cX8_match 121 = .ok (.aload_n 0, 1) by decide +kernel) rfl) rfl
    (sb_cons (pc2 := 123) (sx_iload_n (show decode cX8_match 122 = .ok (.iload_n 3, 1) by decide +kernel) rfl) rfl
    (sb_cons (pc2 := 126) (sx_cV (Y' := YX8_takeIfGreater) (q := (RX8, TX8, 3)) rfl (show decode cX8_match 123 = .ok (.invokevirtual 30, 3) by decide +kernel) rfl rfl (px_w4 wd_367 wd_368 wd_369 wd_370) wd_366 ⟨by decide, by decide, by decide +kernel⟩ (by decide)) rfl
    (sb_cons (pc2 := 129) (sx_iinc (show decode cX8_match 126 = .ok (.iinc 3 1, 3) by decide +kernel) (by decide)) rfl
    (sb_cons (pc2 := 132) (px_snd_goto (show decode cX8_match 129 = .ok (.goto (-20), 3) by decide +kernel) (by decide)) rfl sb_nil))))))))))))
  (ms_cons
  (sb_cons (pc2 := 133) (sx_retv (show decode cX8_match 132 = .ok (.return_, 1) by decide +kernel) rfl) rfl sb_nil)
  ms_nil))))))))))
def kX8_takeIfGreater (X : px_X) : px_B := [(0, [], [px_aload 0, px_getf 8 0, px_push (.int 50), px_iload 1, (px_i2 fun x y => x + y), px_iald 0, px_aload 0, px_getf 8 1, px_if2 (fun x y => decide (x ≤ y)) 34, px_aload 0, px_aload 0, px_getf 8 0, px_push (.int 50), px_iload 1, (px_i2 fun x y => x + y), px_iald 0, px_puti 8 1, px_aload 0, px_iload 1, px_puti 8 2], 34),
  (34, [false, false], [px_retv], 35)]
set_option maxRecDepth 100000 in
set_option maxHeartbeats 8000000 in
theorem sX8_takeIfGreater (d : Nat) (X : px_X) : px_MS d X YX8_takeIfGreater (kX8_takeIfGreater X) :=
  (ms_cons
  (sb_cons (pc2 := 1) (sx_aload_n (show decode cX8_takeIfGreater 0 = .ok (.aload_n 0, 1) by decide +kernel) rfl) rfl
    (sb_cons (pc2 := 4) (sx_getf (show decode cX8_takeIfGreater 1 = .ok (.getfield 11, 3) by decide +kernel) rfl iX8 (by decide) wd_361) rfl
    (sb_cons (pc2 := 6) (sx_bipush (show decode cX8_takeIfGreater 4 = .ok (.bipush 50, 2) by decide +kernel) (by decide)) rfl
    (sb_cons (pc2 := 7) (sx_iload_n (show decode cX8_takeIfGreater 6 = .ok (.iload_n 1, 1) by decide +kernel) rfl) rfl
    (sb_cons (pc2 := 8) (sx_iadd (show decode cX8_takeIfGreater 7 = .ok (.iadd, 1) by decide +kernel)) rfl
    (sb_cons (pc2 := 9) (sx_iald (show decode cX8_takeIfGreater 8 = .ok (.iaload, 1) by decide +kernel)) rfl
    (sb_cons (pc2 := 10) (sx_aload_n (show decode cX8_takeIfGreater 9 = .ok (.aload_n 0, 1) by decide +kernel) rfl) rfl
    (sb_cons (pc2 := 13) (sx_getf (show decode cX8_takeIfGreater 10 = .ok (.getfield 15, 3) by decide +kernel) rfl iX8 (by decide) wd_362) rfl
    (sb_cons (pc2 := 16) (sx_icmp_le (show decode cX8_takeIfGreater 13 = .ok (.if_icmp .le 21, 3) by decide +kernel) (by decide)) rfl
    (sb_cons (pc2 := 17) (sx_aload_n (show decode cX8_takeIfGreater 16 = .ok (.aload_n 0, 1) by decide +kernel) rfl) rfl
    (sb_cons (pc2 := 18) (sx_aload_n (show decode cX8_takeIfGreater 17 = .ok (.aload_n 0, 1) by decide +kernel) rfl) rfl
    (sb_cons (pc2 := 21) (sx_getf (show decode cX8_takeIfGreater 18 = .ok (.getfield 11, 3) by decide +kernel) rfl iX8 (by decide) wd_361) rfl
    (sb_cons (pc2 := 23) (sx_bipush (show decode cX8_takeIfGreater 21 = .ok (.bipush 50, 2) by decide +kernel) (by decide)) rfl
    (sb_cons (pc2 := 24) (sx_iload_n (show decode cX8_takeIfGreater 23 = .ok (.iload_n 1, 1) by decide +kernel) rfl) rfl
    (sb_cons (pc2 := 25) (sx_iadd (show decode cX8_takeIfGreater 24 = .ok (.iadd, 1) by decide +kernel)) rfl
    (sb_cons (pc2 := 26) (sx_iald (show decode cX8_takeIfGreater 25 = .ok (.iaload, 1) by decide +kernel)) rfl
    (sb_cons (pc2 := 29) (sx_puti (show decode cX8_takeIfGreater 26 = .ok (.putfield 15, 3) by decide +kernel) rfl iX8 tyX8_ok nmX8 (by decide) wd_362 rfl (Or.inl rfl)) rfl
    (sb_cons (pc2 := 30) (sx_aload_n (show decode cX8_takeIfGreater 29 = .ok (.aload_n 0, 1) by decide +kernel) rfl) rfl
    (sb_cons (pc2 := 31) (sx_iload_n (show decode cX8_takeIfGreater 30 = .ok (.iload_n 1, 1) by decide +kernel) rfl) rfl
    (sb_cons (pc2 := 34) (sx_puti (show decode cX8_takeIfGreater 31 = .ok (.putfield 19, 3) by decide +kernel) rfl iX8 tyX8_ok nmX8 (by decide) wd_363 rfl (Or.inl rfl)) rfl sb_nil))))))))))))))))))))
  (ms_cons
  (sb_cons (pc2 := 35) (sx_retv (show decode cX8_takeIfGreater 34 = .ok (.return_, 1) by decide +kernel) rfl) rfl sb_nil)
  ms_nil))
def kX8_bestOf (X : px_X) : px_B := [(0, [], [px_aload 1, px_iload 2, px_cV X 112 2 10, px_astore 3, px_aload 3, px_ifnonnull 13, px_push (.int (-2)), px_reti], 13),
  (13, [true, true, true, true, false, false, false, false], [px_push (.int (-1)), px_istore 4, px_push (.int 1), px_istore 5, px_push (.int 0), px_istore 6], 22),
  (22, [true, true, true, true, true, true, true, false], [px_iload 6, px_aload 1, px_getf 10 0, px_if2 (fun x y => decide (y ≤ x)) 82, px_aload 1, px_iload 6, px_cV X 112 2 10, px_astore 7, px_aload 7, px_ifnull 76, px_iload 6, px_iload 2, px_if2 (fun x y => decide (x = y)) 76, px_aload 0, px_aload 3, px_aload 7, px_cV X 99 3 8, px_aload 0, px_getf 8 1, px_iload 5, px_if2 (fun x y => decide (x ≤ y)) 76, px_aload 0, px_getf 8 1, px_istore 5, px_iload 6, px_istore 4], 76),
  (76, [true, true, true, true, true, true, true, false], [px_iinc 6 1, px_goto 22], 82),
  (82, [false, false, false, false, true, false, false, false], [px_iload 4, px_reti], 85)]
set_option maxRecDepth 100000 in
set_option maxHeartbeats 8000000 in
theorem sX8_bestOf (d : Nat) (X : px_X) : px_MS d X YX8_bestOf (kX8_bestOf X) :=
  (ms_cons
  (sb_cons (pc2 := 1) (sx_aload_n (show decode cX8_bestOf 0 = .ok (.aload_n 1, 1) by decide +kernel) rfl) rfl
    (sb_cons (pc2 := 2) (sx_iload_n (show decode cX8_bestOf 1 = .ok (.iload_n 2, 1) by decide +kernel) rfl) rfl
    (sb_cons (pc2 := 5) (sx_cV (Y' := YX10_timberAt) (q := (RX10, TX10, 5)) rfl (show decode cX8_bestOf 2 = .ok (.invokevirtual 34, 3) by decide +kernel) rfl rfl (px_w4 wd_372 wd_373 wd_374 wd_375) wd_371 ⟨by decide, by decide, by decide +kernel⟩ (by decide)) rfl
    (sb_cons (pc2 := 6) (sx_astore_n (show decode cX8_bestOf 5 = .ok (.astore_n 3, 1) by decide +kernel) rfl) rfl
    (sb_cons (pc2 := 7) (sx_aload_n (show decode cX8_bestOf 6 = .ok (.aload_n 3, 1) by decide +kernel) rfl) rfl
    (sb_cons (pc2 := 10) (sx_ifnonnull (show decode cX8_bestOf 7 = .ok (.ifnonnull 6, 3) by decide +kernel) (by decide)) rfl
    (sb_cons (pc2 := 12) (sx_bipush (show decode cX8_bestOf 10 = .ok (.bipush (-2), 2) by decide +kernel) (by decide)) rfl
    (sb_cons (pc2 := 13) (sx_reti (show decode cX8_bestOf 12 = .ok (.ireturn, 1) by decide +kernel) rfl) rfl sb_nil))))))))
  (ms_cons
  (sb_cons (pc2 := 14) (sx_iconst (show decode cX8_bestOf 13 = .ok (.iconst (-1), 1) by decide +kernel) (by decide)) rfl
    (sb_cons (pc2 := 16) (sx_istore (show decode cX8_bestOf 14 = .ok (.istore 4, 2) by decide +kernel)) rfl
    (sb_cons (pc2 := 17) (sx_iconst (show decode cX8_bestOf 16 = .ok (.iconst 1, 1) by decide +kernel) (by decide)) rfl
    (sb_cons (pc2 := 19) (sx_istore (show decode cX8_bestOf 17 = .ok (.istore 5, 2) by decide +kernel)) rfl
    (sb_cons (pc2 := 20) (sx_iconst (show decode cX8_bestOf 19 = .ok (.iconst 0, 1) by decide +kernel) (by decide)) rfl
    (sb_cons (pc2 := 22) (sx_istore (show decode cX8_bestOf 20 = .ok (.istore 6, 2) by decide +kernel)) rfl sb_nil))))))
  (ms_cons
  (sb_cons (pc2 := 24) (sx_iload (show decode cX8_bestOf 22 = .ok (.iload 6, 2) by decide +kernel)) rfl
    (sb_cons (pc2 := 25) (sx_aload_n (show decode cX8_bestOf 24 = .ok (.aload_n 1, 1) by decide +kernel) rfl) rfl
    (sb_cons (pc2 := 28) (sx_getf (show decode cX8_bestOf 25 = .ok (.getfield 40, 3) by decide +kernel) rfl iX10 (by decide) wd_376) rfl
    (sb_cons (pc2 := 31) (sx_icmp_ge (show decode cX8_bestOf 28 = .ok (.if_icmp .ge 54, 3) by decide +kernel) (by decide)) rfl
    (sb_cons (pc2 := 32) (sx_aload_n (show decode cX8_bestOf 31 = .ok (.aload_n 1, 1) by decide +kernel) rfl) rfl
    (sb_cons (pc2 := 34) (sx_iload (show decode cX8_bestOf 32 = .ok (.iload 6, 2) by decide +kernel)) rfl
    (sb_cons (pc2 := 37) (sx_cV (Y' := YX10_timberAt) (q := (RX10, TX10, 5)) rfl (show decode cX8_bestOf 34 = .ok (.invokevirtual 34, 3) by decide +kernel) rfl rfl (px_w4 wd_372 wd_373 wd_374 wd_375) wd_371 ⟨by decide, by decide, by decide +kernel⟩ (by decide)) rfl
    (sb_cons (pc2 := 39) (sx_astore (show decode cX8_bestOf 37 = .ok (.astore 7, 2) by decide +kernel)) rfl
    (sb_cons (pc2 := 41) (sx_aload (show decode cX8_bestOf 39 = .ok (.aload 7, 2) by decide +kernel)) rfl
    (sb_cons (pc2 := 44) (sx_ifnull (show decode cX8_bestOf 41 = .ok (.ifnull 35, 3) by decide +kernel) (by decide)) rfl
    (sb_cons (pc2 := 46) (sx_iload (show decode cX8_bestOf 44 = .ok (.iload 6, 2) by decide +kernel)) rfl
    (sb_cons (pc2 := 47) (sx_iload_n (show decode cX8_bestOf 46 = .ok (.iload_n 2, 1) by decide +kernel) rfl) rfl
    (sb_cons (pc2 := 50) (sx_icmp_eq (show decode cX8_bestOf 47 = .ok (.if_icmp .eq 29, 3) by decide +kernel) (by decide)) rfl
    (sb_cons (pc2 := 51) (sx_aload_n (show decode cX8_bestOf 50 = .ok (.aload_n 0, 1) by decide +kernel) rfl) rfl
    (sb_cons (pc2 := 52) (sx_aload_n (show decode cX8_bestOf 51 = .ok (.aload_n 3, 1) by decide +kernel) rfl) rfl
    (sb_cons (pc2 := 54) (sx_aload (show decode cX8_bestOf 52 = .ok (.aload 7, 2) by decide +kernel)) rfl
    (sb_cons (pc2 := 57) (sx_cV (Y' := YX8_match) (q := (RX8, TX8, 3)) rfl (show decode cX8_bestOf 54 = .ok (.invokevirtual 43, 3) by decide +kernel) rfl rfl (px_w4 wd_378 wd_379 wd_380 wd_370) wd_377 ⟨by decide, by decide, by decide +kernel⟩ (by decide)) rfl
    (sb_cons (pc2 := 58) (sx_aload_n (show decode cX8_bestOf 57 = .ok (.aload_n 0, 1) by decide +kernel) rfl) rfl
    (sb_cons (pc2 := 61) (sx_getf (show decode cX8_bestOf 58 = .ok (.getfield 15, 3) by decide +kernel) rfl iX8 (by decide) wd_362) rfl
    (sb_cons (pc2 := 63) (sx_iload (show decode cX8_bestOf 61 = .ok (.iload 5, 2) by decide +kernel)) rfl
    (sb_cons (pc2 := 66) (sx_icmp_le (show decode cX8_bestOf 63 = .ok (.if_icmp .le 13, 3) by decide +kernel) (by decide)) rfl
    (sb_cons (pc2 := 67) (sx_aload_n (show decode cX8_bestOf 66 = .ok (.aload_n 0, 1) by decide +kernel) rfl) rfl
    (sb_cons (pc2 := 70) (sx_getf (show decode cX8_bestOf 67 = .ok (.getfield 15, 3) by decide +kernel) rfl iX8 (by decide) wd_362) rfl
    (sb_cons (pc2 := 72) (sx_istore (show decode cX8_bestOf 70 = .ok (.istore 5, 2) by decide +kernel)) rfl
    (sb_cons (pc2 := 74) (sx_iload (show decode cX8_bestOf 72 = .ok (.iload 6, 2) by decide +kernel)) rfl
    (sb_cons (pc2 := 76) (sx_istore (show decode cX8_bestOf 74 = .ok (.istore 4, 2) by decide +kernel)) rfl sb_nil))))))))))))))))))))))))))
  (ms_cons
  (sb_cons (pc2 := 79) (sx_iinc (show decode cX8_bestOf 76 = .ok (.iinc 6 1, 3) by decide +kernel) (by decide)) rfl
    (sb_cons (pc2 := 82) (px_snd_goto (show decode cX8_bestOf 79 = .ok (.goto (-57), 3) by decide +kernel) (by decide)) rfl sb_nil))
  (ms_cons
  (sb_cons (pc2 := 84) (sx_iload (show decode cX8_bestOf 82 = .ok (.iload 4, 2) by decide +kernel)) rfl
    (sb_cons (pc2 := 85) (sx_reti (show decode cX8_bestOf 84 = .ok (.ireturn, 1) by decide +kernel) rfl) rfl sb_nil))
  ms_nil)))))
