/-! the code of methods as pure instructions (written by wip/whole/gen.py) -/
def kX10_init (X : px_X) : px_B := [(0, [], [px_aload 0, px_pop, px_aload 0, px_push (.int 0), px_puti 10 0, px_aload 0, px_push (.int 0), px_puti 10 1, px_aload 0, px_push (.int 20), px_newr 3, px_putr 10 2, px_aload 0, px_push (.int 6), px_newi 0, px_putr 10 3, px_aload 0, px_push (.int 6), px_newi 0, px_putr 10 4, px_retv], 40)]
set_option maxRecDepth 100000 in
set_option maxHeartbeats 8000000 in
theorem sX10_init (d : Nat) (X : px_X) : px_MS d X YX10_init (kX10_init X) :=
  (ms_cons
  (sb_cons (pc2 := 1) (sx_aload_n (show decode cX10_init 0 = .ok (.aload_n 0, 1) by decide +kernel) rfl) rfl
    (sb_cons (pc2 := 4) (sx_pop (show decode cX10_init 1 = .ok (.invokespecial 3, 3) by decide +kernel) wd_396 wd_1 wd_2) rfl
    (sb_cons (pc2 := 5) (sx_aload_n (show decode cX10_init 4 = .ok (.aload_n 0, 1) by decide +kernel) rfl) rfl
    (sb_cons (pc2 := 6) (sx_iconst (show decode cX10_init 5 = .ok (.iconst 0, 1) by decide +kernel) (by decide)) rfl
    (sb_cons (pc2 := 9) (sx_puti (show decode cX10_init 6 = .ok (.putfield 9, 3) by decide +kernel) rfl iX10 tyX10_ok nmX10 (by decide) wd_397 rfl (Or.inl rfl)) rfl
    (sb_cons (pc2 := 10) (sx_aload_n (show decode cX10_init 9 = .ok (.aload_n 0, 1) by decide +kernel) rfl) rfl
    (sb_cons (pc2 := 11) (sx_iconst (show decode cX10_init 10 = .ok (.iconst 0, 1) by decide +kernel) (by decide)) rfl
    (sb_cons (pc2 := 14) (sx_puti (show decode cX10_init 11 = .ok (.putfield 15, 3) by decide +kernel) rfl iX10 tyX10_ok nmX10 (by decide) wd_398 rfl (Or.inl rfl)) rfl
    (sb_cons (pc2 := 15) (sx_aload_n (show decode cX10_init 14 = .ok (.aload_n 0, 1) by decide +kernel) rfl) rfl
    (sb_cons (pc2 := 17) (sx_bipush (show decode cX10_init 15 = .ok (.bipush 20, 2) by decide +kernel) (by decide)) rfl
    (sb_cons (pc2 := 20) (sx_newr (t := 3) (show decode cX10_init 17 = .ok (.anewarray 18, 3) by decide +kernel) (fun _ => rfl) wd_399 (fun _ _ _ h => h.2.2.2.2.2.2.2.2.2.2.1)) rfl
    (sb_cons (pc2 := 23) (sx_putr (show decode cX10_init 20 = .ok (.putfield 20, 3) by decide +kernel) rfl iX10 tyX10_ok nmX10 (by decide) wd_400 (Or.inr ⟨_, rfl⟩) (Or.inr ⟨rfl, rfl, rfl⟩)) rfl
    (sb_cons (pc2 := 24) (sx_aload_n (show decode cX10_init 23 = .ok (.aload_n 0, 1) by decide +kernel) rfl) rfl
    (sb_cons (pc2 := 26) (sx_bipush (show decode cX10_init 24 = .ok (.bipush 6, 2) by decide +kernel) (by decide)) rfl
    (sb_cons (pc2 := 28) (sx_newi (t := 0) (show decode cX10_init 26 = .ok (.newarray .int, 2) by decide +kernel) rfl (fun _ => rfl) (Or.inl rfl) wd_17) rfl
    (sb_cons (pc2 := 31) (sx_putr (show decode cX10_init 28 = .ok (.putfield 24, 3) by decide +kernel) rfl iX10 tyX10_ok nmX10 (by decide) wd_401 (Or.inr ⟨_, rfl⟩) (Or.inr ⟨rfl, rfl, rfl⟩)) rfl
    (sb_cons (pc2 := 32) (sx_aload_n (show decode cX10_init 31 = .ok (.aload_n 0, 1) by decide +kernel) rfl) rfl
    (sb_cons (pc2 := 34) (sx_bipush (show decode cX10_init 32 = .ok (.bipush 6, 2) by decide +kernel) (by decide)) rfl
    (sb_cons (pc2 := 36) (sx_newi (t := 0) (show decode cX10_init 34 = .ok (.newarray .int, 2) by decide +kernel) rfl (fun _ => rfl) (Or.inl rfl) wd_17) rfl
    (sb_cons (pc2 := 39) (sx_putr (show decode cX10_init 36 = .ok (.putfield 28, 3) by decide +kernel) rfl iX10 tyX10_ok nmX10 (by decide) wd_402 (Or.inr ⟨_, rfl⟩) (Or.inr ⟨rfl, rfl, rfl⟩)) rfl
    (sb_cons (pc2 := 40) (sx_retv (show decode cX10_init 39 = .ok (.return_, 1) by decide +kernel) rfl) rfl sb_nil)))))))))))))))))))))
  ms_nil)
def kX10_addFind (X : px_X) : px_B := [(0, [], [px_iload 1, px_if1 (fun x => decide (x < 0)) 20, px_iload 1, px_push (.int 6), px_if2 (fun x y => decide (y ≤ x)) 20, px_iload 2, px_if1 (fun x => decide (x < 0)) 20, px_iload 2, px_push (.int 99), px_if2 (fun x y => decide (x ≤ y)) 23], 20),
  (20, [false, false, false, false, false], [px_push (.int (-2)), px_reti], 23),
  (23, [true, true, true, true, true], [px_iload 3, px_if1 (fun x => decide (x < 0)) 45, px_iload 3, px_push (.int 3), px_if2 (fun x y => decide (y < x)) 45, px_iload 4, px_push (.int 1), px_if2 (fun x y => decide (x < y)) 45, px_iload 4, px_push (.int 9), px_if2 (fun x y => decide (x ≤ y)) 48], 45),
  (45, [false, false, false, false, false], [px_push (.int (-2)), px_reti], 48),
  (48, [true, true, true, true, true], [px_aload 0, px_getf 10 0, px_push (.int 20), px_if2 (fun x y => decide (x < y)) 60, px_push (.int (-4)), px_reti], 60),
  (60, [true, true, true, true, true], [px_aload 0, px_getf 10 2, px_aload 0, px_getf 10 0, px_new 2 [.int 0, .int 0, .int 0, .int 0, .int 0, .null, .int 0, .int 0, .int 0], px_dup, px_iload 1, px_iload 2, px_iload 3, px_iload 4, px_cI X 21 5, px_aast 3 2, px_aload 0, px_dup, px_getf 10 0, px_push (.int 1), (px_i2 fun x y => x + y), px_puti 10 0, px_aload 0, px_getf 10 0, px_push (.int 1), (px_i2 fun x y => x - y), px_reti], 98)]
set_option maxRecDepth 100000 in
set_option maxHeartbeats 8000000 in
theorem sX10_addFind (d : Nat) (X : px_X) : px_MS d X YX10_addFind (kX10_addFind X) :=
  (ms_cons
  (sb_cons (pc2 := 1) (sx_iload_n (show decode cX10_addFind 0 = .ok (.iload_n 1, 1) by decide +kernel) rfl) rfl
    (sb_cons (pc2 := 4) (sx_if_lt (show decode cX10_addFind 1 = .ok (.ifCond .lt 19, 3) by decide +kernel) (by decide)) rfl
    (sb_cons (pc2 := 5) (sx_iload_n (show decode cX10_addFind 4 = .ok (.iload_n 1, 1) by decide +kernel) rfl) rfl
    (sb_cons (pc2 := 7) (sx_bipush (show decode cX10_addFind 5 = .ok (.bipush 6, 2) by decide +kernel) (by decide)) rfl
    (sb_cons (pc2 := 10) (sx_icmp_ge (show decode cX10_addFind 7 = .ok (.if_icmp .ge 13, 3) by decide +kernel) (by decide)) rfl
    (sb_cons (pc2 := 11) (sx_iload_n (show decode cX10_addFind 10 = .ok (.iload_n 2, 1) by decide +kernel) rfl) rfl
    (sb_cons (pc2 := 14) (sx_if_lt (show decode cX10_addFind 11 = .ok (.ifCond .lt 9, 3) by decide +kernel) (by decide)) rfl
    (sb_cons (pc2 := 15) (sx_iload_n (show decode cX10_addFind 14 = .ok (.iload_n 2, 1) by decide +kernel) rfl) rfl
    (sb_cons (pc2 := 17) (sx_bipush (show decode cX10_addFind 15 = .ok (.bipush 99, 2) by decide +kernel) (by decide)) rfl
    (sb_cons (pc2 := 20) (sx_icmp_le (show decode cX10_addFind 17 = .ok (.if_icmp .le 6, 3) by decide +kernel) (by decide)) rfl sb_nil))))))))))
  (ms_cons
  (sb_cons (pc2 := 22) (sx_bipush (show decode cX10_addFind 20 = .ok (.bipush (-2), 2) by decide +kernel) (by decide)) rfl
    (sb_cons (pc2 := 23) (sx_reti (show decode cX10_addFind 22 = .ok (.ireturn, 1) by decide +kernel) rfl) rfl sb_nil))
  (ms_cons
  (sb_cons (pc2 := 24) (sx_iload_n (show decode cX10_addFind 23 = .ok (.iload_n 3, 1) by decide +kernel) rfl) rfl
    (sb_cons (pc2 := 27) (sx_if_lt (show decode cX10_addFind 24 = .ok (.ifCond .lt 21, 3) by decide +kernel) (by decide)) rfl
    (sb_cons (pc2 := 28) (sx_iload_n (show decode cX10_addFind 27 = .ok (.iload_n 3, 1) by decide +kernel) rfl) rfl
    (sb_cons (pc2 := 29) (sx_iconst (show decode cX10_addFind 28 = .ok (.iconst 3, 1) by decide +kernel) (by decide)) rfl
    (sb_cons (pc2 := 32) (sx_icmp_gt (show decode cX10_addFind 29 = .ok (.if_icmp .gt 16, 3) by decide +kernel) (by decide)) rfl
    (sb_cons (pc2 := 34) (sx_iload (show decode cX10_addFind 32 = .ok (.iload 4, 2) by decide +kernel)) rfl
    (sb_cons (pc2 := 35) (sx_iconst (show decode cX10_addFind 34 = .ok (.iconst 1, 1) by decide +kernel) (by decide)) rfl
    (sb_cons (pc2 := 38) (sx_icmp_lt (show decode cX10_addFind 35 = .ok (.if_icmp .lt 10, 3) by decide +kernel) (by decide)) rfl
    (sb_cons (pc2 := 40) (sx_iload (show decode cX10_addFind 38 = .ok (.iload 4, 2) by decide +kernel)) rfl
    (sb_cons (pc2 := 42) (sx_bipush (show decode cX10_addFind 40 = .ok (.bipush 9, 2) by decide +kernel) (by decide)) rfl
    (sb_cons (pc2 := 45) (sx_icmp_le (show decode cX10_addFind 42 = .ok (.if_icmp .le 6, 3) by decide +kernel) (by decide)) rfl sb_nil)))))))))))
  (ms_cons
  (sb_cons (pc2 := 47) (sx_bipush (show decode cX10_addFind 45 = .ok (.bipush (-2), 2) by decide +kernel) (by decide)) rfl
    (sb_cons (pc2 := 48) (sx_reti (show decode cX10_addFind 47 = .ok (.ireturn, 1) by decide +kernel) rfl) rfl sb_nil))
  (ms_cons
  (sb_cons (pc2 := 49) (sx_aload_n (show decode cX10_addFind 48 = .ok (.aload_n 0, 1) by decide +kernel) rfl) rfl
    (sb_cons (pc2 := 52) (sx_getf (show decode cX10_addFind 49 = .ok (.getfield 9, 3) by decide +kernel) rfl iX10 (by decide) wd_397) rfl
    (sb_cons (pc2 := 54) (sx_bipush (show decode cX10_addFind 52 = .ok (.bipush 20, 2) by decide +kernel) (by decide)) rfl
    (sb_cons (pc2 := 57) (sx_icmp_lt (show decode cX10_addFind 54 = .ok (.if_icmp .lt 6, 3) by decide +kernel) (by decide)) rfl
    (sb_cons (pc2 := 59) (sx_bipush (show decode cX10_addFind 57 = .ok (.bipush (-4), 2) by decide +kernel) (by decide)) rfl
    (sb_cons (pc2 := 60) (sx_reti (show decode cX10_addFind 59 = .ok (.ireturn, 1) by decide +kernel) rfl) rfl sb_nil))))))
  (ms_cons
  (sb_cons (pc2 := 61) (sx_aload_n (show decode cX10_addFind 60 = .ok (.aload_n 0, 1) by decide +kernel) rfl) rfl
    (sb_cons (pc2 := 64) (sx_getf (show decode cX10_addFind 61 = .ok (.getfield 20, 3) by decide +kernel) rfl iX10 (by decide) wd_400) rfl
    (sb_cons (pc2 := 65) (sx_aload_n (show decode cX10_addFind 64 = .ok (.aload_n 0, 1) by decide +kernel) rfl) rfl
    (sb_cons (pc2 := 68) (sx_getf (show decode cX10_addFind 65 = .ok (.getfield 9, 3) by decide +kernel) rfl iX10 (by decide) wd_397) rfl
    (sb_cons (pc2 := 71) (sx_new (show decode cX10_addFind 68 = .ok (.new 18, 3) by decide +kernel) rfl iX2 tyX2_ok wd_399 wd_403 wd_100 (px_dflt (by decide +kernel)) rfl (fun _ => rfl)) rfl
    (sb_cons (pc2 := 72) (sx_dup (show decode cX10_addFind 71 = .ok (.dup, 1) by decide +kernel)) rfl
    (sb_cons (pc2 := 73) (sx_iload_n (show decode cX10_addFind 72 = .ok (.iload_n 1, 1) by decide +kernel) rfl) rfl
    (sb_cons (pc2 := 74) (sx_iload_n (show decode cX10_addFind 73 = .ok (.iload_n 2, 1) by decide +kernel) rfl) rfl
    (sb_cons (pc2 := 75) (sx_iload_n (show decode cX10_addFind 74 = .ok (.iload_n 3, 1) by decide +kernel) rfl) rfl
    (sb_cons (pc2 := 77) (sx_iload (show decode cX10_addFind 75 = .ok (.iload 4, 2) by decide +kernel)) rfl
    (sb_cons (pc2 := 80) (sx_cI (Y' := YX2_init) rfl (show decode cX10_addFind 77 = .ok (.invokespecial 31, 3) by decide +kernel) wd_406 wd_405 wd_100 rfl rfl wd_404 ⟨by decide, by decide, by decide +kernel⟩ (by decide)) rfl
    (sb_cons (pc2 := 81) (sx_aast (t := 3) (q := (RX2, TX2, 9)) (fun _ => rfl) rfl (show decode cX10_addFind 80 = .ok (.aastore, 1) by decide +kernel)) rfl
    (sb_cons (pc2 := 82) (sx_aload_n (show decode cX10_addFind 81 = .ok (.aload_n 0, 1) by decide +kernel) rfl) rfl
    (sb_cons (pc2 := 83) (sx_dup (show decode cX10_addFind 82 = .ok (.dup, 1) by decide +kernel)) rfl
    (sb_cons (pc2 := 86) (sx_getf (show decode cX10_addFind 83 = .ok (.getfield 9, 3) by decide +kernel) rfl iX10 (by decide) wd_397) rfl
    (sb_cons (pc2 := 87) (sx_iconst (show decode cX10_addFind 86 = .ok (.iconst 1, 1) by decide +kernel) (by decide)) rfl
    (sb_cons (pc2 := 88) (sx_iadd (show decode cX10_addFind 87 = .ok (.iadd, 1) by decide +kernel)) rfl
    (sb_cons (pc2 := 91) (sx_puti (show decode cX10_addFind 88 = .ok (.putfield 9, 3) by decide +kernel) rfl iX10 tyX10_ok nmX10 (by decide) wd_397 rfl (Or.inl rfl)) rfl
    (sb_cons (pc2 := 92) (sx_aload_n (show decode cX10_addFind 91 = .ok (.aload_n 0, 1) by decide +kernel) rfl) rfl
    (sb_cons (pc2 := 95) (sx_getf (show decode cX10_addFind 92 = .ok (.getfield 9, 3) by decide +kernel) rfl iX10 (by decide) wd_397) rfl
    (sb_cons (pc2 := 96) (sx_iconst (show decode cX10_addFind 95 = .ok (.iconst 1, 1) by decide +kernel) (by decide)) rfl
    (sb_cons (pc2 := 97) (sx_isub (show decode cX10_addFind 96 = .ok (.isub, 1) by decide +kernel)) rfl
    (sb_cons (pc2 := 98) (sx_reti (show decode cX10_addFind 97 = .ok (.ireturn, 1) by decide +kernel) rfl) rfl sb_nil)))))))))))))))))))))))
  ms_nil))))))
def kX10_findAt (X : px_X) : px_B := [(0, [], [px_iload 1, px_if1 (fun x => decide (x < 0)) 21, px_iload 1, px_aload 0, px_getf 10 0, px_if2 (fun x y => decide (y ≤ x)) 21, px_aload 0, px_getf 10 2, px_iload 1, px_aald 3, px_goto 22], 21),
  (21, [false, false], [px_push .null], 22),
  (22, [false, false], [px_reta], 23)]
set_option maxRecDepth 100000 in
set_option maxHeartbeats 8000000 in
theorem sX10_findAt (d : Nat) (X : px_X) : px_MS d X YX10_findAt (kX10_findAt X) :=
  (ms_cons
  (sb_cons (pc2 := 1) (sx_iload_n (show decode cX10_findAt 0 = .ok (.iload_n 1, 1) by decide +kernel) rfl) rfl
    (sb_cons (pc2 := 4) (sx_if_lt (show decode cX10_findAt 1 = .ok (.ifCond .lt 20, 3) by decide +kernel) (by decide)) rfl
    (sb_cons (pc2 := 5) (sx_iload_n (show decode cX10_findAt 4 = .ok (.iload_n 1, 1) by decide +kernel) rfl) rfl
    (sb_cons (pc2 := 6) (sx_aload_n (show decode cX10_findAt 5 = .ok (.aload_n 0, 1) by decide +kernel) rfl) rfl
    (sb_cons (pc2 := 9) (sx_getf (show decode cX10_findAt 6 = .ok (.getfield 9, 3) by decide +kernel) rfl iX10 (by decide) wd_397) rfl
    (sb_cons (pc2 := 12) (sx_icmp_ge (show decode cX10_findAt 9 = .ok (.if_icmp .ge 12, 3) by decide +kernel) (by decide)) rfl
    (sb_cons (pc2 := 13) (sx_aload_n (show decode cX10_findAt 12 = .ok (.aload_n 0, 1) by decide +kernel) rfl) rfl
    (sb_cons (pc2 := 16) (sx_getf (show decode cX10_findAt 13 = .ok (.getfield 20, 3) by decide +kernel) rfl iX10 (by decide) wd_400) rfl
    (sb_cons (pc2 := 17) (sx_iload_n (show decode cX10_findAt 16 = .ok (.iload_n 1, 1) by decide +kernel) rfl) rfl
    (sb_cons (pc2 := 18) (sx_aald (t := 3) (fun _ => rfl) (show decode cX10_findAt 17 = .ok (.aaload, 1) by decide +kernel)) rfl
    (sb_cons (pc2 := 21) (px_snd_goto (show decode cX10_findAt 18 = .ok (.goto 4, 3) by decide +kernel) (by decide)) rfl sb_nil)))))))))))
  (ms_cons
  (sb_cons (pc2 := 22) (sx_null (show decode cX10_findAt 21 = .ok (.aconst_null, 1) by decide +kernel)) rfl sb_nil)
  (ms_cons
  (sb_cons (pc2 := 23) (sx_reta (show decode cX10_findAt 22 = .ok (.areturn, 1) by decide +kernel) rfl) rfl sb_nil)
  ms_nil)))
def kX10_timberAt (X : px_X) : px_B := [(0, [], [px_aload 0, px_iload 1, px_cV X 111 2 10, px_astore 2, px_aload 2, px_ifnull 22, px_aload 2, px_getf 2 0, px_push (.int 1), px_if2 (fun x y => decide (¬ x = y)) 22, px_aload 2, px_goto 23], 22),
  (22, [false, false, false], [px_push .null], 23),
  (23, [false, false, false], [px_reta], 24)]
set_option maxRecDepth 100000 in
set_option maxHeartbeats 8000000 in
theorem sX10_timberAt (d : Nat) (X : px_X) : px_MS d X YX10_timberAt (kX10_timberAt X) :=
  (ms_cons
  (sb_cons (pc2 := 1) (sx_aload_n (show decode cX10_timberAt 0 = .ok (.aload_n 0, 1) by decide +kernel) rfl) rfl
    (sb_cons (pc2 := 2) (sx_iload_n (show decode cX10_timberAt 1 = .ok (.iload_n 1, 1) by decide +kernel) rfl) rfl
    (sb_cons (pc2 := 5) (sx_cV (Y' := YX10_findAt) (q := (RX10, TX10, 5)) rfl (show decode cX10_timberAt 2 = .ok (.invokevirtual 34, 3) by decide +kernel) rfl rfl (px_w4 wd_408 wd_409 wd_410 wd_375) wd_407 ⟨by decide, by decide, by decide +kernel⟩ (by decide)) rfl
    (sb_cons (pc2 := 6) (sx_astore_n (show decode cX10_timberAt 5 = .ok (.astore_n 2, 1) by decide +kernel) rfl) rfl
    (sb_cons (pc2 := 7) (sx_aload_n (show decode cX10_timberAt 6 = .ok (.aload_n 2, 1) by decide +kernel) rfl) rfl
    (sb_cons (pc2 := 10) (sx_ifnull (show decode cX10_timberAt 7 = .ok (.ifnull 15, 3) by decide +kernel) (by decide)) rfl
    (sb_cons (pc2 := 11) (sx_aload_n (show decode cX10_timberAt 10 = .ok (.aload_n 2, 1) by decide +kernel) rfl) rfl
    (sb_cons (pc2 := 14) (sx_getf (show decode cX10_timberAt 11 = .ok (.getfield 38, 3) by decide +kernel) rfl iX2 (by decide) wd_411) rfl
    (sb_cons (pc2 := 15) (sx_iconst (show decode cX10_timberAt 14 = .ok (.iconst 1, 1) by decide +kernel) (by decide)) rfl
    (sb_cons (pc2 := 18) (sx_icmp_ne (show decode cX10_timberAt 15 = .ok (.if_icmp .ne 7, 3) by decide +kernel) (by decide)) rfl
    (sb_cons (pc2 := 19) (sx_aload_n (show decode cX10_timberAt 18 = .ok (.aload_n 2, 1) by decide +kernel) rfl) rfl
    (sb_cons (pc2 := 22) (px_snd_goto (show decode cX10_timberAt 19 = .ok (.goto 4, 3) by decide +kernel) (by decide)) rfl sb_nil))))))))))))
  (ms_cons
  (sb_cons (pc2 := 23) (sx_null (show decode cX10_timberAt 22 = .ok (.aconst_null, 1) by decide +kernel)) rfl sb_nil)
  (ms_cons
  (sb_cons (pc2 := 24) (sx_reta (show decode cX10_timberAt 23 = .ok (.areturn, 1) by decide +kernel) rfl) rfl sb_nil)
  ms_nil)))
def kX10_inField (X : px_X) : px_B := [(0, [], [px_push (.int 0), px_istore 1, px_push (.int 0), px_istore 2], 4),
  (4, [true, true, true, false], [px_iload 2, px_aload 0, px_getf 10 0, px_if2 (fun x y => decide (y ≤ x)) 39, px_aload 0, px_getf 10 2, px_iload 2, px_aald 3, px_astore 3, px_aload 3, px_ifnull 33, px_aload 3, px_getf 2 6, px_if1 (fun x => decide (x = 0)) 33, px_iinc 1 1], 33),
  (33, [true, true, true, false], [px_iinc 2 1, px_goto 4], 39),
  (39, [false, true, false, false], [px_iload 1, px_reti], 41)]
set_option maxRecDepth 100000 in
set_option maxHeartbeats 8000000 in
theorem sX10_inField (d : Nat) (X : px_X) : px_MS d X YX10_inField (kX10_inField X) :=
  (ms_cons
  (sb_cons (pc2 := 1) (sx_iconst (show decode cX10_inField 0 = .ok (.iconst 0, 1) by decide +kernel) (by decide)) rfl
    (sb_cons (pc2 := 2) (sx_istore_n (show decode cX10_inField 1 = .ok (.istore_n 1, 1) by decide +kernel) rfl) rfl
    (sb_cons (pc2 := 3) (sx_iconst (show decode cX10_inField 2 = .ok (.iconst 0, 1) by decide +kernel) (by decide)) rfl
    (sb_cons (pc2 := 4) (sx_istore_n (show decode cX10_inField 3 = .ok (.istore_n 2, 1) by decide +kernel) rfl) rfl sb_nil))))
  (ms_cons
  (sb_cons (pc2 := 5) (sx_iload_n (show decode cX10_inField 4 = .ok (.iload_n 2, 1) by decide +kernel) rfl) rfl
    (sb_cons (pc2 := 6) (sx_aload_n (show decode cX10_inField 5 = .ok (.aload_n 0, 1) by decide +kernel) rfl) rfl
    (sb_cons (pc2 := 9) (sx_getf (show decode cX10_inField 6 = .ok (.getfield 9, 3) by decide +kernel) rfl iX10 (by decide) wd_397) rfl
    (sb_cons (pc2 := 12) (sx_icmp_ge (show decode cX10_inField 9 = .ok (.if_icmp .ge 30, 3) by decide +kernel) (by decide)) rfl
    (sb_cons (pc2 := 13) (sx_aload_n (show decode cX10_inField 12 = .ok (.aload_n 0, 1) by decide +kernel) rfl) rfl
    (sb_cons (pc2 := 16) (sx_getf (show decode cX10_inField 13 = .ok (.getfield 20, 3) by decide +kernel) rfl iX10 (by decide) wd_400) rfl
    (sb_cons (pc2 := 17) (sx_iload_n (show decode cX10_inField 16 = .ok (.iload_n 2, 1) by decide +kernel) rfl) rfl
    (sb_cons (pc2 := 18) (sx_aald (t := 3) (fun _ => rfl) (show decode cX10_inField 17 = .ok (.aaload, 1) by decide +kernel)) rfl
    (sb_cons (pc2 := 19) (sx_astore_n (show decode cX10_inField 18 = .ok (.astore_n 3, 1) by decide +kernel) rfl) rfl
    (sb_cons (pc2 := 20) (sx_aload_n (show decode cX10_inField 19 = .ok (.aload_n 3, 1) by decide +kernel) rfl) rfl
    (sb_cons (pc2 := 23) (sx_ifnull (show decode cX10_inField 20 = .ok (.ifnull 13, 3) by decide +kernel) (by decide)) rfl
    (sb_cons (pc2 := 24) (sx_aload_n (show decode cX10_inField 23 = .ok (.aload_n 3, 1) by decide +kernel) rfl) rfl
    (sb_cons (pc2 := 27) (sx_getf (show decode cX10_inField 24 = .ok (.getfield 41, 3) by decide +kernel) rfl iX2 (by decide) wd_412) rfl
    (sb_cons (pc2 := 30) (sx_if_eq (show decode cX10_inField 27 = .ok (.ifCond .eq 6, 3) by decide +kernel) (by decide)) rfl
    (sb_cons (pc2 := 33) (sx_iinc (show decode cX10_inField 30 = .ok (.iinc 1 1, 3) by decide +kernel) (by decide)) rfl sb_nil)))))))))))))))
  (ms_cons
  (sb_cons (pc2 := 36) (sx_iinc (show decode cX10_inField 33 = .ok (.iinc 2 1, 3) by decide +kernel) (by decide)) rfl
    (sb_cons (pc2 := 39) (px_snd_goto (show decode cX10_inField 36 = .ok (.goto (-32), 3) by decide +kernel) (by decide)) rfl sb_nil))
  (ms_cons
  (sb_cons (pc2 := 40) (sx_iload_n (show decode cX10_inField 39 = .ok (.iload_n 1, 1) by decide +kernel) rfl) rfl
    (sb_cons (pc2 := 41) (sx_reti (show decode cX10_inField 40 = .ok (.ireturn, 1) by decide +kernel) rfl) rfl sb_nil))
  ms_nil))))
def kX10_addTank (X : px_X) : px_B := [(0, [], [px_iload 1, px_if1 (fun x => decide (x < 0)) 21, px_iload 1, px_push (.int 6), px_if2 (fun x y => decide (y ≤ x)) 21, px_iload 2, px_push (.int 1), px_if2 (fun x y => decide (x < y)) 21, px_iload 2, px_push (.int 40), px_if2 (fun x y => decide (x ≤ y)) 24], 21),
  (21, [false, false, false], [px_push (.int (-2)), px_reti], 24),
  (24, [true, true, true], [px_aload 0, px_getf 10 1, px_push (.int 6), px_if2 (fun x y => decide (x < y)) 36, px_push (.int (-4)), px_reti], 36),
  (36, [true, true, true], [px_aload 0, px_getf 10 3, px_aload 0, px_getf 10 1, px_iload 1, px_iast 0, px_aload 0, px_getf 10 4, px_aload 0, px_getf 10 1, px_iload 2, px_iast 0, px_aload 0, px_dup, px_getf 10 1, px_push (.int 1), (px_i2 fun x y => x + y), px_puti 10 1, px_aload 0, px_getf 10 1, px_push (.int 1), (px_i2 fun x y => x - y), px_reti], 73)]
set_option maxRecDepth 100000 in
set_option maxHeartbeats 8000000 in
theorem sX10_addTank (d : Nat) (X : px_X) : px_MS d X YX10_addTank (kX10_addTank X) :=
  (ms_cons
  (sb_cons (pc2 := 1) (sx_iload_n (show decode cX10_addTank 0 = .ok (.iload_n 1, 1) by decide +kernel) rfl) rfl
    (sb_cons (pc2 := 4) (sx_if_lt (show decode cX10_addTank 1 = .ok (.ifCond .lt 20, 3) by decide +kernel) (by decide)) rfl
    (sb_cons (pc2 := 5) (sx_iload_n (show decode cX10_addTank 4 = .ok (.iload_n 1, 1) by decide +kernel) rfl) rfl
    (sb_cons (pc2 := 7) (sx_bipush (show decode cX10_addTank 5 = .ok (.bipush 6, 2) by decide +kernel) (by decide)) rfl
    (sb_cons (pc2 := 10) (sx_icmp_ge (show decode cX10_addTank 7 = .ok (.if_icmp .ge 14, 3) by decide +kernel) (by decide)) rfl
    (sb_cons (pc2 := 11) (sx_iload_n (show decode cX10_addTank 10 = .ok (.iload_n 2, 1) by decide +kernel) rfl) rfl
    (sb_cons (pc2 := 12) (sx_iconst (show decode cX10_addTank 11 = .ok (.iconst 1, 1) by decide +kernel) (by decide)) rfl
    (sb_cons (pc2 := 15) (sx_icmp_lt (show decode cX10_addTank 12 = .ok (.if_icmp .lt 9, 3) by decide +kernel) (by decide)) rfl
    (sb_cons (pc2 := 16) (sx_iload_n (show decode cX10_addTank 15 = .ok (.iload_n 2, 1) by decide +kernel) rfl) rfl
    (sb_cons (pc2 := 18) (sx_bipush (show decode cX10_addTank 16 = .ok (.bipush 40, 2) by decide +kernel) (by decide)) rfl
    (sb_cons (pc2 := 21) (sx_icmp_le (show decode cX10_addTank 18 = .ok (.if_icmp .le 6, 3) by decide +kernel) (by decide)) rfl sb_nil)))))))))))
  (ms_cons
  (sb_cons (pc2 := 23) (sx_bipush (show decode cX10_addTank 21 = .ok (.bipush (-2), 2) by decide +kernel) (by decide)) rfl
    (sb_cons (pc2 := 24) (sx_reti (show decode cX10_addTank 23 = .ok (.ireturn, 1) by decide +kernel) rfl) rfl sb_nil))
  (ms_cons
  (sb_cons (pc2 := 25) (sx_aload_n (show decode cX10_addTank 24 = .ok (.aload_n 0, 1) by decide +kernel) rfl) rfl
    (sb_cons (pc2 := 28) (sx_getf (show decode cX10_addTank 25 = .ok (.getfield 15, 3) by decide +kernel) rfl iX10 (by decide) wd_398) rfl
    (sb_cons (pc2 := 30) (sx_bipush (show decode cX10_addTank 28 = .ok (.bipush 6, 2) by decide +kernel) (by decide)) rfl
    (sb_cons (pc2 := 33) (sx_icmp_lt (show decode cX10_addTank 30 = .ok (.if_icmp .lt 6, 3) by decide +kernel) (by decide)) rfl
    (sb_cons (pc2 := 35) (sx_bipush (show decode cX10_addTank 33 = .ok (.bipush (-4), 2) by decide +kernel) (by decide)) rfl
    (sb_cons (pc2 := 36) (sx_reti (show decode cX10_addTank 35 = .ok (.ireturn, 1) by decide +kernel) rfl) rfl sb_nil))))))
  (ms_cons
  (sb_cons (pc2 := 37) (sx_aload_n (show decode cX10_addTank 36 = .ok (.aload_n 0, 1) by decide +kernel) rfl) rfl
    (sb_cons (pc2 := 40) (sx_getf (show decode cX10_addTank 37 = .ok (.getfield 24, 3) by decide +kernel) rfl iX10 (by decide) wd_401) rfl
    (sb_cons (pc2 := 41) (sx_aload_n (show decode cX10_addTank 40 = .ok (.aload_n 0, 1) by decide +kernel) rfl) rfl
    (sb_cons (pc2 := 44) (sx_getf (show decode cX10_addTank 41 = .ok (.getfield 15, 3) by decide +kernel) rfl iX10 (by decide) wd_398) rfl
    (sb_cons (pc2 := 45) (sx_iload_n (show decode cX10_addTank 44 = .ok (.iload_n 1, 1) by decide +kernel) rfl) rfl
    (sb_cons (pc2 := 46) (sx_iast (show decode cX10_addTank 45 = .ok (.iastore, 1) by decide +kernel)) rfl
    (sb_cons (pc2 := 47) (sx_aload_n (show decode cX10_addTank 46 = .ok (.aload_n 0, 1) by decide +kernel) rfl) rfl
    (sb_cons (pc2 := 50) (sx_getf (show decode cX10_addTank 47 = .ok (.getfield 28, 3) by decide +kernel) rfl iX10 (by decide) wd_402) rfl
    (sb_cons (pc2 := 51) (sx_aload_n (show decode cX10_addTank 50 = .ok (.aload_n 0, 1) by decide +kernel) rfl) rfl
    (sb_cons (pc2 := 54) (sx_getf (show decode cX10_addTank 51 = .ok (.getfield 15, 3) by decide +kernel) rfl iX10 (by decide) wd_398) rfl
    (sb_cons (pc2 := 55) (sx_iload_n (show decode cX10_addTank 54 = .ok (.iload_n 2, 1) by decide +kernel) rfl) rfl
    (sb_cons (pc2 := 56) (sx_iast (show decode cX10_addTank 55 = .ok (.iastore, 1) by decide +kernel)) rfl
    (sb_cons (pc2 := 57) (sx_aload_n (show decode cX10_addTank 56 = .ok (.aload_n 0, 1) by decide +kernel) rfl) rfl
    (sb_cons (pc2 := 58) (sx_dup (show decode cX10_addTank 57 = .ok (.dup, 1) by decide +kernel)) rfl
    (sb_cons (pc2 := 61) (sx_getf (show decode cX10_addTank 58 = .ok (.getfield 15, 3) by decide +kernel) rfl iX10 (by decide) wd_398) rfl
    (sb_cons (pc2 := 62) (sx_iconst (show decode cX10_addTank 61 = .ok (.iconst 1, 1) by decide +kernel) (by decide)) rfl
    (sb_cons (pc2 := 63) (sx_iadd (show decode cX10_addTank 62 = .ok (.iadd, 1) by decide +kernel)) rfl
    (sb_cons (pc2 := 66) (sx_puti (show decode cX10_addTank 63 = .ok (.putfield 15, 3) by decide +kernel) rfl iX10 tyX10_ok nmX10 (by decide) wd_398 rfl (Or.inl rfl)) rfl
    (sb_cons (pc2 := 67) (sx_aload_n (show decode cX10_addTank 66 = .ok (.aload_n 0, 1) by decide +kernel) rfl) rfl
    (sb_cons (pc2 := 70) (sx_getf (show decode cX10_addTank 67 = .ok (.getfield 15, 3) by decide +kernel) rfl iX10 (by decide) wd_398) rfl
    (sb_cons (pc2 := 71) (sx_iconst (show decode cX10_addTank 70 = .ok (.iconst 1, 1) by decide +kernel) (by decide)) rfl
    (sb_cons (pc2 := 72) (sx_isub (show decode cX10_addTank 71 = .ok (.isub, 1) by decide +kernel)) rfl
    (sb_cons (pc2 := 73) (sx_reti (show decode cX10_addTank 72 = .ok (.ireturn, 1) by decide +kernel) rfl) rfl sb_nil)))))))))))))))))))))))
  ms_nil))))
def kX10_hasTank (X : px_X) : px_B := [(0, [], [px_iload 1, px_if1 (fun x => decide (x < 0)) 16, px_iload 1, px_aload 0, px_getf 10 1, px_if2 (fun x y => decide (y ≤ x)) 16, px_push (.int 1), px_goto 17], 16),
  (16, [false, false], [px_push (.int 0)], 17),
  (17, [false, false], [px_retz], 18)]
set_option maxRecDepth 100000 in
set_option maxHeartbeats 8000000 in
theorem sX10_hasTank (d : Nat) (X : px_X) : px_MS d X YX10_hasTank (kX10_hasTank X) :=
  (ms_cons
  (sb_cons (pc2 := 1) (sx_iload_n (show decode cX10_hasTank 0 = .ok (.iload_n 1, 1) by decide +kernel) rfl) rfl
    (sb_cons (pc2 := 4) (sx_if_lt (show decode cX10_hasTank 1 = .ok (.ifCond .lt 15, 3) by decide +kernel) (by decide)) rfl
    (sb_cons (pc2 := 5) (sx_iload_n (show decode cX10_hasTank 4 = .ok (.iload_n 1, 1) by decide +kernel) rfl) rfl
    (sb_cons (pc2 := 6) (sx_aload_n (show decode cX10_hasTank 5 = .ok (.aload_n 0, 1) by decide +kernel) rfl) rfl
    (sb_cons (pc2 := 9) (sx_getf (show decode cX10_hasTank 6 = .ok (.getfield 15, 3) by decide +kernel) rfl iX10 (by decide) wd_398) rfl
    (sb_cons (pc2 := 12) (sx_icmp_ge (show decode cX10_hasTank 9 = .ok (.if_icmp .ge 7, 3) by decide +kernel) (by decide)) rfl
    (sb_cons (pc2 := 13) (sx_iconst (show decode cX10_hasTank 12 = .ok (.iconst 1, 1) by decide +kernel) (by decide)) rfl
    (sb_cons (pc2 := 16) (px_snd_goto (show decode cX10_hasTank 13 = .ok (.goto 4, 3) by decide +kernel) (by decide)) rfl sb_nil))))))))
  (ms_cons
  (sb_cons (pc2 := 17) (sx_iconst (show decode cX10_hasTank 16 = .ok (.iconst 0, 1) by decide +kernel) (by decide)) rfl sb_nil)
  (ms_cons
  (sb_cons (pc2 := 18) (sx_retz (show decode cX10_hasTank 17 = .ok (.ireturn, 1) by decide +kernel) rfl) rfl sb_nil)
  ms_nil)))
def kX10_tankItem (X : px_X) : px_B := [(0, [], [px_aload 0, px_iload 1, px_cV X 115 2 10, px_if1 (fun x => decide (¬ x = 0)) 11, px_push (.int (-2)), px_reti], 11),
  (11, [true, true, true], [px_iload 2, px_sw [(0, 44), (1, 51), (2, 58), (3, 64)] 70], 44),
  (44, [true, true, false], [px_aload 0, px_getf 10 3, px_iload 1, px_iald 0, px_reti], 51),
  (51, [true, true, false], [px_aload 0, px_getf 10 4, px_iload 1, px_iald 0, px_reti], 58),
  (58, [true, true, false], [px_aload 0, px_iload 1, px_cV X 117 2 10, px_reti], 64),
  (64, [true, true, false], [px_aload 0, px_iload 1, px_cV X 118 2 10, px_reti], 70),
  (70, [false, false, false], [px_push (.int (-2)), px_reti], 73)]
set_option maxRecDepth 100000 in
set_option maxHeartbeats 8000000 in
theorem sX10_tankItem (d : Nat) (X : px_X) : px_MS d X YX10_tankItem (kX10_tankItem X) :=
  (ms_cons
  (sb_cons (pc2 := 1) (sx_aload_n (show decode cX10_tankItem 0 = .ok (.aload_n 0, 1) by decide +kernel) rfl) rfl
    (sb_cons (pc2 := 2) (sx_iload_n (show decode cX10_tankItem 1 = .ok (.iload_n 1, 1) by decide +kernel) rfl) rfl
    (sb_cons (pc2 := 5) (sx_cV (Y' := YX10_hasTank) (q := (RX10, TX10, 5)) rfl (show decode cX10_tankItem 2 = .ok (.invokevirtual 45, 3) by decide +kernel) rfl rfl (px_w4 wd_414 wd_415 wd_416 wd_375) wd_413 ⟨by decide, by decide, by decide +kernel⟩ (by decide)) rfl
    (sb_cons (pc2 := 8) (sx_if_ne (show decode cX10_tankItem 5 = .ok (.ifCond .ne 6, 3) by decide +kernel) (by decide)) rfl
    (sb_cons (pc2 := 10) (sx_bipush (show decode cX10_tankItem 8 = .ok (.bipush (-2), 2) by decide +kernel) (by decide)) rfl
    (sb_cons (pc2 := 11) (sx_reti (show decode cX10_tankItem 10 = .ok (.ireturn, 1) by decide +kernel) rfl) rfl sb_nil))))))
  (ms_cons
  (sb_cons (pc2 := 12) (sx_iload_n (show decode cX10_tankItem 11 = .ok (.iload_n 2, 1) by decide +kernel) rfl) rfl
    (sb_cons (pc2 := 44) (sx_tsw (show decode cX10_tankItem 12 = .ok (.tableswitch 58 0 3 #[32, 39, 46, 52], 32) by decide +kernel) (by decide) (by decide +kernel) (by decide +kernel)) rfl sb_nil))
  (ms_cons
  (sb_cons (pc2 := 45) (sx_aload_n (show decode cX10_tankItem 44 = .ok (.aload_n 0, 1) by decide +kernel) rfl) rfl
    (sb_cons (pc2 := 48) (sx_getf (show decode cX10_tankItem 45 = .ok (.getfield 24, 3) by decide +kernel) rfl iX10 (by decide) wd_401) rfl
    (sb_cons (pc2 := 49) (sx_iload_n (show decode cX10_tankItem 48 = .ok (.iload_n 1, 1) by decide +kernel) rfl) rfl
    (sb_cons (pc2 := 50) (sx_iald (show decode cX10_tankItem 49 = .ok (.iaload, 1) by decide +kernel)) rfl
    (sb_cons (pc2 := 51) (sx_reti (show decode cX10_tankItem 50 = .ok (.ireturn, 1) by decide +kernel) rfl) rfl sb_nil)))))
  (ms_cons
  (sb_cons (pc2 := 52) (sx_aload_n (show decode cX10_tankItem 51 = .ok (.aload_n 0, 1) by decide +kernel) rfl) rfl
    (sb_cons (pc2 := 55) (sx_getf (show decode cX10_tankItem 52 = .ok (.getfield 28, 3) by decide +kernel) rfl iX10 (by decide) wd_402) rfl
    (sb_cons (pc2 := 56) (sx_iload_n (show decode cX10_tankItem 55 = .ok (.iload_n 1, 1) by decide +kernel) rfl) rfl
    (sb_cons (pc2 := 57) (sx_iald (show decode cX10_tankItem 56 = .ok (.iaload, 1) by decide +kernel)) rfl
    (sb_cons (pc2 := 58) (sx_reti (show decode cX10_tankItem 57 = .ok (.ireturn, 1) by decide +kernel) rfl) rfl sb_nil)))))
  (ms_cons
  (sb_cons (pc2 := 59) (sx_aload_n (show decode cX10_tankItem 58 = .ok (.aload_n 0, 1) by decide +kernel) rfl) rfl
    (sb_cons (pc2 := 60) (sx_iload_n (show decode cX10_tankItem 59 = .ok (.iload_n 1, 1) by decide +kernel) rfl) rfl
    (sb_cons (pc2 := 63) (sx_cV (Y' := YX10_sizesIn) (q := (RX10, TX10, 5)) rfl (show decode cX10_tankItem 60 = .ok (.invokevirtual 49, 3) by decide +kernel) rfl rfl (px_w4 wd_418 wd_419 wd_420 wd_375) wd_417 ⟨by decide, by decide, by decide +kernel⟩ (by decide)) rfl
    (sb_cons (pc2 := 64) (sx_reti (show decode cX10_tankItem 63 = .ok (.ireturn, 1) by decide +kernel) rfl) rfl sb_nil))))
  (ms_cons
  (sb_cons (pc2 := 65) (sx_aload_n (show decode cX10_tankItem 64 = .ok (.aload_n 0, 1) by decide +kernel) rfl) rfl
    (sb_cons (pc2 := 66) (sx_iload_n (show decode cX10_tankItem 65 = .ok (.iload_n 1, 1) by decide +kernel) rfl) rfl
    (sb_cons (pc2 := 69) (sx_cV (Y' := YX10_findsIn) (q := (RX10, TX10, 5)) rfl (show decode cX10_tankItem 66 = .ok (.invokevirtual 53, 3) by decide +kernel) rfl rfl (px_w4 wd_422 wd_423 wd_424 wd_375) wd_421 ⟨by decide, by decide, by decide +kernel⟩ (by decide)) rfl
    (sb_cons (pc2 := 70) (sx_reti (show decode cX10_tankItem 69 = .ok (.ireturn, 1) by decide +kernel) rfl) rfl sb_nil))))
  (ms_cons
  (sb_cons (pc2 := 72) (sx_bipush (show decode cX10_tankItem 70 = .ok (.bipush (-2), 2) by decide +kernel) (by decide)) rfl
    (sb_cons (pc2 := 73) (sx_reti (show decode cX10_tankItem 72 = .ok (.ireturn, 1) by decide +kernel) rfl) rfl sb_nil))
  ms_nil)))))))
def kX10_sizesIn (X : px_X) : px_B := [(0, [], [px_push (.int 0), px_istore 2, px_push (.int 0), px_istore 3], 4),
  (4, [true, true, true, true, false], [px_iload 3, px_aload 0, px_getf 10 0, px_if2 (fun x y => decide (y ≤ x)) 48, px_aload 0, px_getf 10 2, px_iload 3, px_aald 3, px_astore 4, px_aload 4, px_ifnull 42, px_aload 4, px_getf 2 7, px_iload 1, px_if2 (fun x y => decide (¬ x = y)) 42, px_iload 2, px_aload 4, px_getf 2 3, (px_i2 fun x y => x + y), px_istore 2], 42),
  (42, [true, true, true, true, false], [px_iinc 3 1, px_goto 4], 48),
  (48, [false, false, true, false, false], [px_iload 2, px_reti], 50)]
set_option maxRecDepth 100000 in
set_option maxHeartbeats 8000000 in
theorem sX10_sizesIn (d : Nat) (X : px_X) : px_MS d X YX10_sizesIn (kX10_sizesIn X) :=
  (ms_cons
  (sb_cons (pc2 := 1) (sx_iconst (show decode cX10_sizesIn 0 = .ok (.iconst 0, 1) by decide +kernel) (by decide)) rfl
    (sb_cons (pc2 := 2) (sx_istore_n (show decode cX10_sizesIn 1 = .ok (.istore_n 2, 1) by decide +kernel) rfl) rfl
    (sb_cons (pc2 := 3) (sx_iconst (show decode cX10_sizesIn 2 = .ok (.iconst 0, 1) by decide +kernel) (by decide)) rfl
    (sb_cons (pc2 := 4) (sx_istore_n (show decode cX10_sizesIn 3 = .ok (.istore_n 3, 1) by decide +kernel) rfl) rfl sb_nil))))
  (ms_cons
  (sb_cons (pc2 := 5) (sx_iload_n (show decode cX10_sizesIn 4 = .ok (.iload_n 3, 1) by decide +kernel) rfl) rfl
    (sb_cons (pc2 := 6) (sx_aload_n (show decode cX10_sizesIn 5 = .ok (.aload_n 0, 1) by decide +kernel) rfl) rfl
    (sb_cons (pc2 := 9) (sx_getf (show decode cX10_sizesIn 6 = .ok (.getfield 9, 3) by decide +kernel) rfl iX10 (by decide) wd_397) rfl
    (sb_cons (pc2 := 12) (sx_icmp_ge (show decode cX10_sizesIn 9 = .ok (.if_icmp .ge 39, 3) by decide +kernel) (by decide)) rfl
    (sb_cons (pc2 := 13) (sx_aload_n (show decode cX10_sizesIn 12 = .ok (.aload_n 0, 1) by decide +kernel) rfl) rfl
    (sb_cons (pc2 := 16) (sx_getf (show decode cX10_sizesIn 13 = .ok (.getfield 20, 3) by decide +kernel) rfl iX10 (by decide) wd_400) rfl
    (sb_cons (pc2 := 17) (sx_iload_n (show decode cX10_sizesIn 16 = .ok (.iload_n 3, 1) by decide +kernel) rfl) rfl
    (sb_cons (pc2 := 18) (sx_aald (t := 3) (fun _ => rfl) (show decode cX10_sizesIn 17 = .ok (.aaload, 1) by decide +kernel)) rfl
    (sb_cons (pc2 := 20) (sx_astore (show decode cX10_sizesIn 18 = .ok (.astore 4, 2) by decide +kernel)) rfl
    (sb_cons (pc2 := 22) (sx_aload (show decode cX10_sizesIn 20 = .ok (.aload 4, 2) by decide +kernel)) rfl
    (sb_cons (pc2 := 25) (sx_ifnull (show decode cX10_sizesIn 22 = .ok (.ifnull 20, 3) by decide +kernel) (by decide)) rfl
    (sb_cons (pc2 := 27) (sx_aload (show decode cX10_sizesIn 25 = .ok (.aload 4, 2) by decide +kernel)) rfl
    (sb_cons (pc2 := 30) (sx_getf (show decode cX10_sizesIn 27 = .ok (.getfield 56, 3) by decide +kernel) rfl iX2 (by decide) wd_425) rfl
    (sb_cons (pc2 := 31) (sx_iload_n (show decode cX10_sizesIn 30 = .ok (.iload_n 1, 1) by decide +kernel) rfl) rfl
    (sb_cons (pc2 := 34) (sx_icmp_ne (show decode cX10_sizesIn 31 = .ok (.if_icmp .ne 11, 3) by decide +kernel) (by decide)) rfl
    (sb_cons (pc2 := 35) (sx_iload_n (show decode cX10_sizesIn 34 = .ok (.iload_n 2, 1) by decide +kernel) rfl) rfl
    (sb_cons (pc2 := 37) (sx_aload (show decode cX10_sizesIn 35 = .ok (.aload 4, 2) by decide +kernel)) rfl
    (sb_cons (pc2 := 40) (sx_getf (show decode cX10_sizesIn 37 = .ok (.getfield 59, 3) by decide +kernel) rfl iX2 (by decide) wd_426) rfl
    (sb_cons (pc2 := 41) (sx_iadd (show decode cX10_sizesIn 40 = .ok (.iadd, 1) by decide +kernel)) rfl
    (sb_cons (pc2 := 42) (sx_istore_n (show decode cX10_sizesIn 41 = .ok (.istore_n 2, 1) by decide +kernel) rfl) rfl sb_nil))))))))))))))))))))
  (ms_cons
  (sb_cons (pc2 := 45) (sx_iinc (show decode cX10_sizesIn 42 = .ok (.iinc 3 1, 3) by decide +kernel) (by decide)) rfl
    (sb_cons (pc2 := 48) (px_snd_goto (show decode cX10_sizesIn 45 = .ok (.goto (-41), 3) by decide +kernel) (by decide)) rfl sb_nil))
  (ms_cons
  (sb_cons (pc2 := 49) (sx_iload_n (show decode cX10_sizesIn 48 = .ok (.iload_n 2, 1) by decide +kernel) rfl) rfl
    (sb_cons (pc2 := 50) (sx_reti (show decode cX10_sizesIn 49 = .ok (.ireturn, 1) by decide +kernel) rfl) rfl sb_nil))
  ms_nil))))
def kX10_findsIn (X : px_X) : px_B := [(0, [], [px_push (.int 0), px_istore 2, px_push (.int 0), px_istore 3], 4),
  (4, [true, true, true, true, false], [px_iload 3, px_aload 0, px_getf 10 0, px_if2 (fun x y => decide (y ≤ x)) 43, px_aload 0, px_getf 10 2, px_iload 3, px_aald 3, px_astore 4, px_aload 4, px_ifnull 37, px_aload 4, px_getf 2 7, px_iload 1, px_if2 (fun x y => decide (¬ x = y)) 37, px_iinc 2 1], 37),
  (37, [true, true, true, true, false], [px_iinc 3 1, px_goto 4], 43),
  (43, [false, false, true, false, false], [px_iload 2, px_reti], 45)]
set_option maxRecDepth 100000 in
set_option maxHeartbeats 8000000 in
theorem sX10_findsIn (d : Nat) (X : px_X) : px_MS d X YX10_findsIn (kX10_findsIn X) :=
  (ms_cons
  (sb_cons (pc2 := 1) (sx_iconst (show decode cX10_findsIn 0 = .ok (.iconst 0, 1) by decide +kernel) (by decide)) rfl
    (sb_cons (pc2 := 2) (sx_istore_n (show decode cX10_findsIn 1 = .ok (.istore_n 2, 1) by decide +kernel) rfl) rfl
    (sb_cons (pc2 := 3) (sx_iconst (show decode cX10_findsIn 2 = .ok (.iconst 0, 1) by decide +kernel) (by decide)) rfl
    (sb_cons (pc2 := 4) (sx_istore_n (show decode cX10_findsIn 3 = .ok (.istore_n 3, 1) by decide +kernel) rfl) rfl sb_nil))))
  (ms_cons
  (sb_cons (pc2 := 5) (sx_iload_n (show decode cX10_findsIn 4 = .ok (.iload_n 3, 1) by decide +kernel) rfl) rfl
    (sb_cons (pc2 := 6) (sx_aload_n (show decode cX10_findsIn 5 = .ok (.aload_n 0, 1) by decide +kernel) rfl) rfl
    (sb_cons (pc2 := 9) (sx_getf (show decode cX10_findsIn 6 = .ok (.getfield 9, 3) by decide +kernel) rfl iX10 (by decide) wd_397) rfl
    (sb_cons (pc2 := 12) (sx_icmp_ge (show decode cX10_findsIn 9 = .ok (.if_icmp .ge 34, 3) by decide +kernel) (by decide)) rfl
    (sb_cons (pc2 := 13) (sx_aload_n (show decode cX10_findsIn 12 = .ok (.aload_n 0, 1) by decide +kernel) rfl) rfl
    (sb_cons (pc2 := 16) (sx_getf (show decode cX10_findsIn 13 = .ok (.getfield 20, 3) by decide +kernel) rfl iX10 (by decide) wd_400) rfl
    (sb_cons (pc2 := 17) (sx_iload_n (show decode cX10_findsIn 16 = .ok (.iload_n 3, 1) by decide +kernel) rfl) rfl
    (sb_cons (pc2 := 18) (sx_aald (t := 3) (fun _ => rfl) (show decode cX10_findsIn 17 = .ok (.aaload, 1) by decide +kernel)) rfl
    (sb_cons (pc2 := 20) (sx_astore (show decode cX10_findsIn 18 = .ok (.astore 4, 2) by decide +kernel)) rfl
    (sb_cons (pc2 := 22) (sx_aload (show decode cX10_findsIn 20 = .ok (.aload 4, 2) by decide +kernel)) rfl
    (sb_cons (pc2 := 25) (sx_ifnull (show decode cX10_findsIn 22 = .ok (.ifnull 15, 3) by decide +kernel) (by decide)) rfl
    (sb_cons (pc2 := 27) (sx_aload (show decode cX10_findsIn 25 = .ok (.aload 4, 2) by decide +kernel)) rfl
    (sb_cons (pc2 := 30) (sx_getf (show decode cX10_findsIn 27 = .ok (.getfield 56, 3) by decide +kernel) rfl iX2 (by decide) wd_425) rfl
    (sb_cons (pc2 := 31) (sx_iload_n (show decode cX10_findsIn 30 = .ok (.iload_n 1, 1) by decide +kernel) rfl) rfl
    (sb_cons (pc2 := 34) (sx_icmp_ne (show decode cX10_findsIn 31 = .ok (.if_icmp .ne 6, 3) by decide +kernel) (by decide)) rfl
    (sb_cons (pc2 := 37) (sx_iinc (show decode cX10_findsIn 34 = .ok (.iinc 2 1, 3) by decide +kernel) (by decide)) rfl sb_nil))))))))))))))))
  (ms_cons
  (sb_cons (pc2 := 40) (sx_iinc (show decode cX10_findsIn 37 = .ok (.iinc 3 1, 3) by decide +kernel) (by decide)) rfl
    (sb_cons (pc2 := 43) (px_snd_goto (show decode cX10_findsIn 40 = .ok (.goto (-36), 3) by decide +kernel) (by decide)) rfl sb_nil))
  (ms_cons
  (sb_cons (pc2 := 44) (sx_iload_n (show decode cX10_findsIn 43 = .ok (.iload_n 2, 1) by decide +kernel) rfl) rfl
    (sb_cons (pc2 := 45) (sx_reti (show decode cX10_findsIn 44 = .ok (.ireturn, 1) by decide +kernel) rfl) rfl sb_nil))
  ms_nil))))
def kX10_refusal (X : px_X) : px_B := [(0, [], [px_aload 1, px_getf 2 6, px_if1 (fun x => decide (¬ x = 0)) 9, px_push (.int 1), px_reti], 9),
  (9, [true, true, true], [px_aload 1, px_aload 0, px_getf 10 3, px_iload 2, px_iald 0, px_cV X 24 2 2, px_if1 (fun x => decide (¬ x = 0)) 24, px_push (.int 2), px_reti], 24),
  (24, [true, true, true], [px_aload 0, px_iload 2, px_cV X 117 2 10, px_aload 1, px_getf 2 3, (px_i2 fun x y => x + y), px_aload 0, px_getf 10 4, px_iload 2, px_iald 0, px_if2 (fun x y => decide (x ≤ y)) 47, px_push (.int 3), px_goto 48], 47),
  (47, [false, false, false], [px_push (.int 0)], 48),
  (48, [false, false, false], [px_reti], 49)]
set_option maxRecDepth 100000 in
set_option maxHeartbeats 8000000 in
theorem sX10_refusal (d : Nat) (X : px_X) : px_MS d X YX10_refusal (kX10_refusal X) :=
  (ms_cons
  (sb_cons (pc2 := 1) (sx_aload_n (show decode cX10_refusal 0 = .ok (.aload_n 1, 1) by decide +kernel) rfl) rfl
    (sb_cons (pc2 := 4) (sx_getf (show decode cX10_refusal 1 = .ok (.getfield 41, 3) by decide +kernel) rfl iX2 (by decide) wd_412) rfl
    (sb_cons (pc2 := 7) (sx_if_ne (show decode cX10_refusal 4 = .ok (.ifCond .ne 5, 3) by decide +kernel) (by decide)) rfl
    (sb_cons (pc2 := 8) (sx_iconst (show decode cX10_refusal 7 = .ok (.iconst 1, 1) by decide +kernel) (by decide)) rfl
    (sb_cons (pc2 := 9) (sx_reti (show decode cX10_refusal 8 = .ok (.ireturn, 1) by decide +kernel) rfl) rfl sb_nil)))))
  (ms_cons
  (sb_cons (pc2 := 10) (sx_aload_n (show decode cX10_refusal 9 = .ok (.aload_n 1, 1) by decide +kernel) rfl) rfl
    (sb_cons (pc2 := 11) (sx_aload_n (show decode cX10_refusal 10 = .ok (.aload_n 0, 1) by decide +kernel) rfl) rfl
    (sb_cons (pc2 := 14) (sx_getf (show decode cX10_refusal 11 = .ok (.getfield 24, 3) by decide +kernel) rfl iX10 (by decide) wd_401) rfl
    (sb_cons (pc2 := 15) (sx_iload_n (show decode cX10_refusal 14 = .ok (.iload_n 2, 1) by decide +kernel) rfl) rfl
    (sb_cons (pc2 := 16) (sx_iald (show decode cX10_refusal 15 = .ok (.iaload, 1) by decide +kernel)) rfl
    (sb_cons (pc2 := 19) (sx_cV (Y' := YX2_isUnder) (q := (RX2, TX2, 9)) rfl (show decode cX10_refusal 16 = .ok (.invokevirtual 62, 3) by decide +kernel) rfl rfl (px_w4 wd_428 wd_429 wd_430 wd_100) wd_427 ⟨by decide, by decide, by decide +kernel⟩ (by decide)) rfl
    (sb_cons (pc2 := 22) (sx_if_ne (show decode cX10_refusal 19 = .ok (.ifCond .ne 5, 3) by decide +kernel) (by decide)) rfl
    (sb_cons (pc2 := 23) (sx_iconst (show decode cX10_refusal 22 = .ok (.iconst 2, 1) by decide +kernel) (by decide)) rfl
    (sb_cons (pc2 := 24) (sx_reti (show decode cX10_refusal 23 = .ok (.ireturn, 1) by decide +kernel) rfl) rfl sb_nil)))))))))
  (ms_cons
  (sb_cons (pc2 := 25) (sx_aload_n (show decode cX10_refusal 24 = .ok (.aload_n 0, 1) by decide +kernel) rfl) rfl
    (sb_cons (pc2 := 26) (sx_iload_n (show decode cX10_refusal 25 = .ok (.iload_n 2, 1) by decide +kernel) rfl) rfl
    (sb_cons (pc2 := 29) (sx_cV (Y' := YX10_sizesIn) (q := (RX10, TX10, 5)) rfl (show decode cX10_refusal 26 = .ok (.invokevirtual 49, 3) by decide +kernel) rfl rfl (px_w4 wd_418 wd_419 wd_420 wd_375) wd_417 ⟨by decide, by decide, by decide +kernel⟩ (by decide)) rfl
    (sb_cons (pc2 := 30) (sx_aload_n (show decode cX10_refusal 29 = .ok (.aload_n 1, 1) by decide +kernel) rfl) rfl
    (sb_cons (pc2 := 33) (sx_getf (show decode cX10_refusal 30 = .ok (.getfield 59, 3) by decide +kernel) rfl iX2 (by decide) wd_426) rfl
    (sb_cons (pc2 := 34) (sx_iadd (show decode cX10_refusal 33 = .ok (.iadd, 1) by decide +kernel)) rfl
    (sb_cons (pc2 := 35) (sx_aload_n (show decode cX10_refusal 34 = .ok (.aload_n 0, 1) by decide +kernel) rfl) rfl
    (sb_cons (pc2 := 38) (sx_getf (show decode cX10_refusal 35 = .ok (.getfield 28, 3) by decide +kernel) rfl iX10 (by decide) wd_402) rfl
    (sb_cons (pc2 := 39) (sx_iload_n (show decode cX10_refusal 38 = .ok (.iload_n 2, 1) by decide +kernel) rfl) rfl
    (sb_cons (pc2 := 40) (sx_iald (show decode cX10_refusal 39 = .ok (.iaload, 1) by decide +kernel)) rfl
    (sb_cons (pc2 := 43) (sx_icmp_le (show decode cX10_refusal 40 = .ok (.if_icmp .le 7, 3) by decide +kernel) (by decide)) rfl
    (sb_cons (pc2 := 44) (sx_iconst (show decode cX10_refusal 43 = .ok (.iconst 3, 1) by decide +kernel) (by decide)) rfl
    (sb_cons (pc2 := 47) (px_snd_goto (show decode cX10_refusal 44 = .ok (.goto 4, 3) by decide +kernel) (by decide)) rfl sb_nil)))))))))))))
  (ms_cons
  (sb_cons (pc2 := 48) (sx_iconst (show decode cX10_refusal 47 = .ok (.iconst 0, 1) by decide +kernel) (by decide)) rfl sb_nil)
  (ms_cons
  (sb_cons (pc2 := 49) (sx_reti (show decode cX10_refusal 48 = .ok (.ireturn, 1) by decide +kernel) rfl) rfl sb_nil)
  ms_nil)))))
