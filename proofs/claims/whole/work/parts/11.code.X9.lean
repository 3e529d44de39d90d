/-! the code of methods as pure instructions (written by wip/whole/gen.py) -/
def kX9_init (X : px_X) : px_B := [(0, [], [px_aload 0, px_pop, px_aload 0, px_push (.int 0), px_puti 9 0, px_aload 0, px_push (.int 0), px_puti 9 1, px_retv], 15)]
set_option maxRecDepth 100000 in
set_option maxHeartbeats 8000000 in
theorem sX9_init (d : Nat) (X : px_X) : px_MS d X YX9_init (kX9_init X) :=
  (ms_cons
  (sb_cons (pc2 := 1) (sx_aload_n (show decode cX9_init 0 = .ok (.aload_n 0, 1) by decide +kernel) rfl) rfl
    (sb_cons (pc2 := 4) (sx_pop (show decode cX9_init 1 = .ok (.invokespecial 3, 3) by decide +kernel) wd_381 wd_1 wd_2) rfl
    (sb_cons (pc2 := 5) (sx_aload_n (show decode cX9_init 4 = .ok (.aload_n 0, 1) by decide +kernel) rfl) rfl
    (sb_cons (pc2 := 6) (sx_iconst (show decode cX9_init 5 = .ok (.iconst 0, 1) by decide +kernel) (by decide)) rfl
    (sb_cons (pc2 := 9) (sx_puti (show decode cX9_init 6 = .ok (.putfield 9, 3) by decide +kernel) rfl iX9 tyX9_ok nmX9 (by decide) wd_382 rfl (Or.inl rfl)) rfl
    (sb_cons (pc2 := 10) (sx_aload_n (show decode cX9_init 9 = .ok (.aload_n 0, 1) by decide +kernel) rfl) rfl
    (sb_cons (pc2 := 11) (sx_iconst (show decode cX9_init 10 = .ok (.iconst 0, 1) by decide +kernel) (by decide)) rfl
    (sb_cons (pc2 := 14) (sx_puti (show decode cX9_init 11 = .ok (.putfield 15, 3) by decide +kernel) rfl iX9 tyX9_ok nmX9 (by decide) wd_383 rfl (Or.inl rfl)) rfl
    (sb_cons (pc2 := 15) (sx_retv (show decode cX9_init 14 = .ok (.return_, 1) by decide +kernel) rfl) rfl sb_nil)))))))))
  ms_nil)
def kX9_openHatches (X : px_X) : px_B := [(0, [], [px_iload 1, px_push (.int (-31)), (px_i2 fun x y => x &&& y), px_if1 (fun x => decide (x = 0)) 10, px_push (.int (-2)), px_reti], 10),
  (10, [true, true, false], [px_aload 0, px_getf 9 0, px_istore 2, px_aload 0, px_iload 1, px_puti 9 0, px_iload 2, px_reti], 22)]
set_option maxRecDepth 100000 in
set_option maxHeartbeats 8000000 in
theorem sX9_openHatches (d : Nat) (X : px_X) : px_MS d X YX9_openHatches (kX9_openHatches X) :=
  (ms_cons
  (sb_cons (pc2 := 1) (sx_iload_n (show decode cX9_openHatches 0 = .ok (.iload_n 1, 1) by decide +kernel) rfl) rfl
    (sb_cons (pc2 := 3) (sx_bipush (show decode cX9_openHatches 1 = .ok (.bipush (-31), 2) by decide +kernel) (by decide)) rfl
    (sb_cons (pc2 := 4) (sx_iand (show decode cX9_openHatches 3 = .ok (.iand, 1) by decide +kernel)) rfl
    (sb_cons (pc2 := 7) (sx_if_eq (show decode cX9_openHatches 4 = .ok (.ifCond .eq 6, 3) by decide +kernel) (by decide)) rfl
    (sb_cons (pc2 := 9) (sx_bipush (show decode cX9_openHatches 7 = .ok (.bipush (-2), 2) by decide +kernel) (by decide)) rfl
    (sb_cons (pc2 := 10) (sx_reti (show decode cX9_openHatches 9 = .ok (.ireturn, 1) by decide +kernel) rfl) rfl sb_nil))))))
  (ms_cons
  (sb_cons (pc2 := 11) (sx_aload_n (show decode cX9_openHatches 10 = .ok (.aload_n 0, 1) by decide +kernel) rfl) rfl
    (sb_cons (pc2 := 14) (sx_getf (show decode cX9_openHatches 11 = .ok (.getfield 9, 3) by decide +kernel) rfl iX9 (by decide) wd_382) rfl
    (sb_cons (pc2 := 15) (sx_istore_n (show decode cX9_openHatches 14 = .ok (.istore_n 2, 1) by decide +kernel) rfl) rfl
    (sb_cons (pc2 := 16) (sx_aload_n (show decode cX9_openHatches 15 = .ok (.aload_n 0, 1) by decide +kernel) rfl) rfl
    (sb_cons (pc2 := 17) (sx_iload_n (show decode cX9_openHatches 16 = .ok (.iload_n 1, 1) by decide +kernel) rfl) rfl
    (sb_cons (pc2 := 20) (sx_puti (show decode cX9_openHatches 17 = .ok (.putfield 9, 3) by decide +kernel) rfl iX9 tyX9_ok nmX9 (by decide) wd_382 rfl (Or.inl rfl)) rfl
    (sb_cons (pc2 := 21) (sx_iload_n (show decode cX9_openHatches 20 = .ok (.iload_n 2, 1) by decide +kernel) rfl) rfl
    (sb_cons (pc2 := 22) (sx_reti (show decode cX9_openHatches 21 = .ok (.ireturn, 1) by decide +kernel) rfl) rfl sb_nil))))))))
  ms_nil))
def kX9_changeRoll (X : px_X) : px_B := [(0, [], [px_iload 1, px_push (.int (-9)), px_if2 (fun x y => decide (x < y)) 12, px_iload 1, px_push (.int 9), px_if2 (fun x y => decide (x ≤ y)) 15], 12),
  (12, [false, false, false], [px_push (.int (-2)), px_reti], 15),
  (15, [true, true, false], [px_aload 0, px_getf 9 1, px_istore 2, px_aload 0, px_iload 1, px_puti 9 1, px_iload 2, px_reti], 27)]
set_option maxRecDepth 100000 in
set_option maxHeartbeats 8000000 in
theorem sX9_changeRoll (d : Nat) (X : px_X) : px_MS d X YX9_changeRoll (kX9_changeRoll X) :=
  (ms_cons
  (sb_cons (pc2 := 1) (sx_iload_n (show decode cX9_changeRoll 0 = .ok (.iload_n 1, 1) by decide +kernel) rfl) rfl
    (sb_cons (pc2 := 3) (sx_bipush (show decode cX9_changeRoll 1 = .ok (.bipush (-9), 2) by decide +kernel) (by decide)) rfl
    (sb_cons (pc2 := 6) (sx_icmp_lt (show decode cX9_changeRoll 3 = .ok (.if_icmp .lt 9, 3) by decide +kernel) (by decide)) rfl
    (sb_cons (pc2 := 7) (sx_iload_n (show decode cX9_changeRoll 6 = .ok (.iload_n 1, 1) by decide +kernel) rfl) rfl
    (sb_cons (pc2 := 9) (sx_bipush (show decode cX9_changeRoll 7 = .ok (.bipush 9, 2) by decide +kernel) (by decide)) rfl
    (sb_cons (pc2 := 12) (sx_icmp_le (show decode cX9_changeRoll 9 = .ok (.if_icmp .le 6, 3) by decide +kernel) (by decide)) rfl sb_nil))))))
  (ms_cons
  (sb_cons (pc2 := 14) (sx_bipush (show decode cX9_changeRoll 12 = .ok (.bipush (-2), 2) by decide +kernel) (by decide)) rfl
    (sb_cons (pc2 := 15) (sx_reti (show decode cX9_changeRoll 14 = .ok (.ireturn, 1) by decide +kernel) rfl) rfl sb_nil))
  (ms_cons
  (sb_cons (pc2 := 16) (sx_aload_n (show decode cX9_changeRoll 15 = .ok (.aload_n 0, 1) by decide +kernel) rfl) rfl
    (sb_cons (pc2 := 19) (sx_getf (show decode cX9_changeRoll 16 = .ok (.getfield 15, 3) by decide +kernel) rfl iX9 (by decide) wd_383) rfl
    (sb_cons (pc2 := 20) (sx_istore_n (show decode cX9_changeRoll 19 = .ok (.istore_n 2, 1) by decide +kernel) rfl) rfl
    (sb_cons (pc2 := 21) (sx_aload_n (show decode cX9_changeRoll 20 = .ok (.aload_n 0, 1) by decide +kernel) rfl) rfl
    (sb_cons (pc2 := 22) (sx_iload_n (show decode cX9_changeRoll 21 = .ok (.iload_n 1, 1) by decide +kernel) rfl) rfl
    (sb_cons (pc2 := 25) (sx_puti (show decode cX9_changeRoll 22 = .ok (.putfield 15, 3) by decide +kernel) rfl iX9 tyX9_ok nmX9 (by decide) wd_383 rfl (Or.inl rfl)) rfl
    (sb_cons (pc2 := 26) (sx_iload_n (show decode cX9_changeRoll 25 = .ok (.iload_n 2, 1) by decide +kernel) rfl) rfl
    (sb_cons (pc2 := 27) (sx_reti (show decode cX9_changeRoll 26 = .ok (.ireturn, 1) by decide +kernel) rfl) rfl sb_nil))))))))
  ms_nil)))
def kX9_ways (X : px_X) : px_B := [(0, [], [px_push (.int 0), px_istore 2, px_push (.int 0), px_istore 3], 4),
  (4, [true, true, true, true], [px_iload 3, px_push (.int 5), px_if2 (fun x y => decide (y ≤ x)) 28, px_aload 0, px_iload 3, px_aload 1, px_cV X 107 3 9, px_push (.int (-1)), px_if2 (fun x y => decide (x = y)) 22, px_iinc 2 1], 22),
  (22, [true, true, true, true], [px_iinc 3 1, px_goto 4], 28),
  (28, [false, false, true, false], [px_iload 2, px_reti], 30)]
set_option maxRecDepth 100000 in
set_option maxHeartbeats 8000000 in
theorem sX9_ways (d : Nat) (X : px_X) : px_MS d X YX9_ways (kX9_ways X) :=
  (ms_cons
  (sb_cons (pc2 := 1) (sx_iconst (show decode cX9_ways 0 = .ok (.iconst 0, 1) by decide +kernel) (by decide)) rfl
    (sb_cons (pc2 := 2) (sx_istore_n (show decode cX9_ways 1 = .ok (.istore_n 2, 1) by decide +kernel) rfl) rfl
    (sb_cons (pc2 := 3) (sx_iconst (show decode cX9_ways 2 = .ok (.iconst 0, 1) by decide +kernel) (by decide)) rfl
    (sb_cons (pc2 := 4) (sx_istore_n (show decode cX9_ways 3 = .ok (.istore_n 3, 1) by decide +kernel) rfl) rfl sb_nil))))
  (ms_cons
  (sb_cons (pc2 := 5) (sx_iload_n (show decode cX9_ways 4 = .ok (.iload_n 3, 1) by decide +kernel) rfl) rfl
    (sb_cons (pc2 := 6) (sx_iconst (show decode cX9_ways 5 = .ok (.iconst 5, 1) by decide +kernel) (by decide)) rfl
    (sb_cons (pc2 := 9) (sx_icmp_ge (show decode cX9_ways 6 = .ok (.if_icmp .ge 22, 3) by decide +kernel) (by decide)) rfl
    (sb_cons (pc2 := 10) (sx_aload_n (show decode cX9_ways 9 = .ok (.aload_n 0, 1) by decide +kernel) rfl) rfl
    (sb_cons (pc2 := 11) (sx_iload_n (show decode cX9_ways 10 = .ok (.iload_n 3, 1) by decide +kernel) rfl) rfl
    (sb_cons (pc2 := 12) (sx_aload_n (show decode cX9_ways 11 = .ok (.aload_n 1, 1) by decide +kernel) rfl) rfl
    (sb_cons (pc2 := 15) (sx_cV (Y' := YX9_placeOn) (q := (RX9, TX9, 2)) rfl (show decode cX9_ways 12 = .ok (.invokevirtual 18, 3) by decide +kernel) rfl rfl (px_w4 wd_385 wd_386 wd_387 wd_388) wd_384 ⟨by decide, by decide, by decide +kernel⟩ (by decide)) rfl
    (sb_cons (pc2 := 16) (sx_iconst (show decode cX9_ways 15 = .ok (.iconst (-1), 1) by decide +kernel) (by decide)) rfl
    (sb_cons (pc2 := 19) (sx_icmp_eq (show decode cX9_ways 16 = .ok (.if_icmp .eq 6, 3) by decide +kernel) (by decide)) rfl
    (sb_cons (pc2 := 22) (sx_iinc (show decode cX9_ways 19 = .ok (.iinc 2 1, 3) by decide +kernel) (by decide)) rfl sb_nil))))))))))
  (ms_cons
  (sb_cons (pc2 := 25) (sx_iinc (show decode cX9_ways 22 = .ok (.iinc 3 1, 3) by decide +kernel) (by decide)) rfl
    (sb_cons (pc2 := 28) (px_snd_goto (show decode cX9_ways 25 = .ok (.goto (-21), 3) by decide +kernel) (by decide)) rfl sb_nil))
  (ms_cons
  (sb_cons (pc2 := 29) (sx_iload_n (show decode cX9_ways 28 = .ok (.iload_n 2, 1) by decide +kernel) rfl) rfl
    (sb_cons (pc2 := 30) (sx_reti (show decode cX9_ways 29 = .ok (.ireturn, 1) by decide +kernel) rfl) rfl sb_nil))
  ms_nil))))
def kX9_wayAt (X : px_X) : px_B := [(0, [], [px_push (.int 0), px_istore 3, px_push (.int 0), px_istore 4], 5),
  (5, [true, true, true, true, true, false], [px_iload 4, px_push (.int 5), px_if2 (fun x y => decide (y ≤ x)) 49, px_aload 0, px_iload 4, px_aload 1, px_cV X 107 3 9, px_istore 5, px_iload 5, px_push (.int (-1)), px_if2 (fun x y => decide (x = y)) 43, px_iload 3, px_iload 2, px_if2 (fun x y => decide (¬ x = y)) 40, px_push (.int 10), px_iload 4, (px_i2 fun x y => x * y), px_iload 5, (px_i2 fun x y => x + y), px_reti], 40),
  (40, [true, true, true, true, true, false], [px_iinc 3 1], 43),
  (43, [true, true, true, true, true, false], [px_iinc 4 1, px_goto 5], 49),
  (49, [false, false, false, false, false, false], [px_push (.int (-1)), px_reti], 51)]
set_option maxRecDepth 100000 in
set_option maxHeartbeats 8000000 in
theorem sX9_wayAt (d : Nat) (X : px_X) : px_MS d X YX9_wayAt (kX9_wayAt X) :=
  (ms_cons
  (sb_cons (pc2 := 1) (sx_iconst (show decode cX9_wayAt 0 = .ok (.iconst 0, 1) by decide +kernel) (by decide)) rfl
    (sb_cons (pc2 := 2) (sx_istore_n (show decode cX9_wayAt 1 = .ok (.istore_n 3, 1) by decide +kernel) rfl) rfl
    (sb_cons (pc2 := 3) (sx_iconst (show decode cX9_wayAt 2 = .ok (.iconst 0, 1) by decide +kernel) (by decide)) rfl
    (sb_cons (pc2 := 5) (sx_istore (show decode cX9_wayAt 3 = .ok (.istore 4, 2) by decide +kernel)) rfl sb_nil))))
  (ms_cons
  (sb_cons (pc2 := 7) (sx_iload (show decode cX9_wayAt 5 = .ok (.iload 4, 2) by decide +kernel)) rfl
    (sb_cons (pc2 := 8) (sx_iconst (show decode cX9_wayAt 7 = .ok (.iconst 5, 1) by decide +kernel) (by decide)) rfl
    (sb_cons (pc2 := 11) (sx_icmp_ge (show decode cX9_wayAt 8 = .ok (.if_icmp .ge 41, 3) by decide +kernel) (by decide)) rfl
    (sb_cons (pc2 := 12) (sx_aload_n (show decode cX9_wayAt 11 = .ok (.aload_n 0, 1) by decide +kernel) rfl) rfl
    (sb_cons (pc2 := 14) (sx_iload (show decode cX9_wayAt 12 = .ok (.iload 4, 2) by decide +kernel)) rfl
    (sb_cons (pc2 := 15) (sx_aload_n (show decode cX9_wayAt 14 = .ok (.aload_n 1, 1) by decide +kernel) rfl) rfl
    (sb_cons (pc2 := 18) (sx_cV (Y' := YX9_placeOn) (q := (RX9, TX9, 2)) rfl (show decode cX9_wayAt 15 = .ok (.invokevirtual 18, 3) by decide +kernel) rfl rfl (px_w4 wd_385 wd_386 wd_387 wd_388) wd_384 ⟨by decide, by decide, by decide +kernel⟩ (by decide)) rfl
    (sb_cons (pc2 := 20) (sx_istore (show decode cX9_wayAt 18 = .ok (.istore 5, 2) by decide +kernel)) rfl
    (sb_cons (pc2 := 22) (sx_iload (show decode cX9_wayAt 20 = .ok (.iload 5, 2) by decide +kernel)) rfl
    (sb_cons (pc2 := 23) (sx_iconst (show decode cX9_wayAt 22 = .ok (.iconst (-1), 1) by decide +kernel) (by decide)) rfl
    (sb_cons (pc2 := 26) (sx_icmp_eq (show decode cX9_wayAt 23 = .ok (.if_icmp .eq 20, 3) by decide +kernel) (by decide)) rfl
    (sb_cons (pc2 := 27) (sx_iload_n (show decode cX9_wayAt 26 = .ok (.iload_n 3, 1) by decide +kernel) rfl) rfl
    (sb_cons (pc2 := 28) (sx_iload_n (show decode cX9_wayAt 27 = .ok (.iload_n 2, 1) by decide +kernel) rfl) rfl
    (sb_cons (pc2 := 31) (sx_icmp_ne (show decode cX9_wayAt 28 = .ok (.if_icmp .ne 12, 3) by decide +kernel) (by decide)) rfl
    (sb_cons (pc2 := 33) (sx_bipush (show decode cX9_wayAt 31 = .ok (.bipush 10, 2) by decide +kernel) (by decide)) rfl
    (sb_cons (pc2 := 35) (sx_iload (show decode cX9_wayAt 33 = .ok (.iload 4, 2) by decide +kernel)) rfl
    (sb_cons (pc2 := 36) (sx_imul (show decode cX9_wayAt 35 = .ok (.imul, 1) by decide +kernel)) rfl
    (sb_cons (pc2 := 38) (sx_iload (show decode cX9_wayAt 36 = .ok (.iload 5, 2) by decide +kernel)) rfl
    (sb_cons (pc2 := 39) (sx_iadd (show decode cX9_wayAt 38 = .ok (.iadd, 1) by decide +kernel)) rfl
    (sb_cons (pc2 := 40) (sx_reti (show decode cX9_wayAt 39 = .ok (.ireturn, 1) by decide +kernel) rfl) rfl sb_nil))))))))))))))))))))
  (ms_cons
  (sb_cons (pc2 := 43) (sx_iinc (show decode cX9_wayAt 40 = .ok (.iinc 3 1, 3) by decide +kernel) (by decide)) rfl sb_nil)
  (ms_cons
  (sb_cons (pc2 := 46) (sx_iinc (show decode cX9_wayAt 43 = .ok (.iinc 4 1, 3) by decide +kernel) (by decide)) rfl
    (sb_cons (pc2 := 49) (px_snd_goto (show decode cX9_wayAt 46 = .ok (.goto (-41), 3) by decide +kernel) (by decide)) rfl sb_nil))
  (ms_cons
  (sb_cons (pc2 := 50) (sx_iconst (show decode cX9_wayAt 49 = .ok (.iconst (-1), 1) by decide +kernel) (by decide)) rfl
    (sb_cons (pc2 := 51) (sx_reti (show decode cX9_wayAt 50 = .ok (.ireturn, 1) by decide +kernel) rfl) rfl sb_nil))
  ms_nil)))))
def kX9_placeOn (X : px_X) : px_B := [(0, [], [px_aload 0, px_iload 1, px_cV X 108 2 9, px_istore 3, px_aload 2, px_cV X 22 1 2, px_iload 3, px_aload 0, px_getf 9 1, (px_i2 fun x y => x * y), (px_i2 fun x y => x - y), px_istore 4, px_iload 3, px_push (.int 3), (px_i2m fun x y => if y < x then y else x), px_aload 2, px_getf 2 2, px_if2 (fun x y => decide (¬ x = y)) 35, px_push (.int 1), px_goto 36], 35),
  (35, [false, false, false, false, true, false], [px_push (.int 0)], 36),
  (36, [false, false, false, false, true, false], [px_istore 5, px_iload 5, px_if1 (fun x => decide (x = 0)) 60, px_iload 4, px_if1 (fun x => decide (x < 0)) 60, px_iload 4, px_push (.int 10), px_if2 (fun x y => decide (y ≤ x)) 60, px_iload 4, px_goto 61], 60),
  (60, [false, false, false, false, false, false], [px_push (.int (-1))], 61),
  (61, [false, false, false, false, false, false], [px_reti], 62)]
set_option maxRecDepth 100000 in
set_option maxHeartbeats 8000000 in
theorem sX9_placeOn (d : Nat) (X : px_X) : px_MS d X YX9_placeOn (kX9_placeOn X) :=
  (ms_cons
  (sb_cons (pc2 := 1) (sx_aload_n (show decode cX9_placeOn 0 = .ok (.aload_n 0, 1) by decide +kernel) rfl) rfl
    (sb_cons (pc2 := 2) (sx_iload_n (show decode cX9_placeOn 1 = .ok (.iload_n 1, 1) by decide +kernel) rfl) rfl
    (sb_cons (pc2 := 5) (sx_cV (Y' := YX9_decksDown) (q := (RX9, TX9, 2)) rfl (show decode cX9_placeOn 2 = .ok (.invokevirtual 22, 3) by decide +kernel) rfl rfl (px_w4 wd_390 wd_391 wd_392 wd_388) wd_389 ⟨by decide, by decide, by decide +kernel⟩ (by decide)) rfl
    (sb_cons (pc2 := 6) (sx_istore_n (show decode cX9_placeOn 5 = .ok (.istore_n 3, 1) by decide +kernel) rfl) rfl
    (sb_cons (pc2 := 7) (sx_aload_n (show decode cX9_placeOn 6 = .ok (.aload_n 2, 1) by decide +kernel) rfl) rfl
    (sb_cons (pc2 := 10) (sx_cV (Y' := YX2_x) (q := (RX2, TX2, 9)) rfl (show decode cX9_placeOn 7 = .ok (.invokevirtual 26, 3) by decide +kernel) rfl rfl (px_w4 wd_393 wd_158 wd_159 wd_100) wd_156 ⟨by decide, by decide, by decide +kernel⟩ (by decide)) rfl
    (sb_cons (pc2 := 11) (sx_iload_n (show decode cX9_placeOn 10 = .ok (.iload_n 3, 1) by decide +kernel) rfl) rfl
    (sb_cons (pc2 := 12) (sx_aload_n (show decode cX9_placeOn 11 = .ok (.aload_n 0, 1) by decide +kernel) rfl) rfl
    (sb_cons (pc2 := 15) (sx_getf (show decode cX9_placeOn 12 = .ok (.getfield 15, 3) by decide +kernel) rfl iX9 (by decide) wd_383) rfl
    (sb_cons (pc2 := 16) (sx_imul (show decode cX9_placeOn 15 = .ok (.imul, 1) by decide +kernel)) rfl
    (sb_cons (pc2 := 17) (sx_isub (show decode cX9_placeOn 16 = .ok (.isub, 1) by decide +kernel)) rfl
    (sb_cons (pc2 := 19) (sx_istore (show decode cX9_placeOn 17 = .ok (.istore 4, 2) by decide +kernel)) rfl
    (sb_cons (pc2 := 20) (sx_iload_n (show decode cX9_placeOn 19 = .ok (.iload_n 3, 1) by decide +kernel) rfl) rfl
    (sb_cons (pc2 := 21) (sx_iconst (show decode cX9_placeOn 20 = .ok (.iconst 3, 1) by decide +kernel) (by decide)) rfl
    (sb_cons (pc2 := 24) (sx_mmin (show decode cX9_placeOn 21 = .ok (.invokestatic 32, 3) by decide +kernel) wd_394 wd_79 wd_67 wd_80) rfl
    (sb_cons (pc2 := 25) (sx_aload_n (show decode cX9_placeOn 24 = .ok (.aload_n 2, 1) by decide +kernel) rfl) rfl
    (sb_cons (pc2 := 28) (sx_getf (show decode cX9_placeOn 25 = .ok (.getfield 38, 3) by decide +kernel) rfl iX2 (by decide) wd_395) rfl
    (sb_cons (pc2 := 31) (sx_icmp_ne (show decode cX9_placeOn 28 = .ok (.if_icmp .ne 7, 3) by decide +kernel) (by decide)) rfl
    (sb_cons (pc2 := 32) (sx_iconst (show decode cX9_placeOn 31 = .ok (.iconst 1, 1) by decide +kernel) (by decide)) rfl
    (sb_cons (pc2 := 35) (px_snd_goto (show decode cX9_placeOn 32 = .ok (.goto 4, 3) by decide +kernel) (by decide)) rfl sb_nil))))))))))))))))))))
  (ms_cons
  (sb_cons (pc2 := 36) (sx_iconst (show decode cX9_placeOn 35 = .ok (.iconst 0, 1) by decide +kernel) (by decide)) rfl sb_nil)
  (ms_cons
  (sb_cons (pc2 := 38) (sx_istore (show decode cX9_placeOn 36 = .ok (.istore 5, 2) by decide +kernel)) rfl
    (sb_cons (pc2 := 40) (sx_iload (show decode cX9_placeOn 38 = .ok (.iload 5, 2) by decide +kernel)) rfl
    (sb_cons (pc2 := 43) (sx_if_eq (show decode cX9_placeOn 40 = .ok (.ifCond .eq 20, 3) by decide +kernel) (by decide)) rfl
    (sb_cons (pc2 := 45) (sx_iload (show decode cX9_placeOn 43 = .ok (.iload 4, 2) by decide +kernel)) rfl
    (sb_cons (pc2 := 48) (sx_if_lt (show decode cX9_placeOn 45 = .ok (.ifCond .lt 15, 3) by decide +kernel) (by decide)) rfl
    (sb_cons (pc2 := 50) (sx_iload (show decode cX9_placeOn 48 = .ok (.iload 4, 2) by decide +kernel)) rfl
    (sb_cons (pc2 := 52) (sx_bipush (show decode cX9_placeOn 50 = .ok (.bipush 10, 2) by decide +kernel) (by decide)) rfl
    (sb_cons (pc2 := 55) (sx_icmp_ge (show decode cX9_placeOn 52 = .ok (.if_icmp .ge 8, 3) by decide +kernel) (by decide)) rfl
    (sb_cons (pc2 := 57) (sx_iload (show decode cX9_placeOn 55 = .ok (.iload 4, 2) by decide +kernel)) rfl
    (sb_cons (pc2 := 60) (px_snd_goto (show decode cX9_placeOn 57 = .ok (.goto 4, 3) by decide +kernel) (by decide)) rfl sb_nil))))))))))
  (ms_cons
  (sb_cons (pc2 := 61) (sx_iconst (show decode cX9_placeOn 60 = .ok (.iconst (-1), 1) by decide +kernel) (by decide)) rfl sb_nil)
  (ms_cons
  (sb_cons (pc2 := 62) (sx_reti (show decode cX9_placeOn 61 = .ok (.ireturn, 1) by decide +kernel) rfl) rfl sb_nil)
  ms_nil)))))
def kX9_decksDown (X : px_X) : px_B := [(0, [], [px_push (.int 0), px_istore 2, px_iload 1, px_istore 3], 4),
  (4, [true, false, true, true], [px_iload 3, px_if1 (fun x => decide (x ≤ 0)) 29, px_aload 0, px_getf 9 0, px_iload 3, (px_i2 fun x y => x >>> (y &&& 31)), px_push (.int 1), (px_i2 fun x y => x &&& y), px_push (.int 1), px_if2 (fun x y => decide (¬ x = y)) 29, px_iinc 2 1, px_iinc 3 (-1), px_goto 4], 29),
  (29, [false, false, true, false], [px_iload 2, px_reti], 31)]
set_option maxRecDepth 100000 in
set_option maxHeartbeats 8000000 in
theorem sX9_decksDown (d : Nat) (X : px_X) : px_MS d X YX9_decksDown (kX9_decksDown X) :=
  (ms_cons
  (sb_cons (pc2 := 1) (sx_iconst (show decode cX9_decksDown 0 = .ok (.iconst 0, 1) by decide +kernel) (by decide)) rfl
    (sb_cons (pc2 := 2) (sx_istore_n (show decode cX9_decksDown 1 = .ok (.istore_n 2, 1) by decide +kernel) rfl) rfl
    (sb_cons (pc2 := 3) (sx_iload_n (show decode cX9_decksDown 2 = .ok (.iload_n 1, 1) by decide +kernel) rfl) rfl
    (sb_cons (pc2 := 4) (sx_istore_n (show decode cX9_decksDown 3 = .ok (.istore_n 3, 1) by decide +kernel) rfl) rfl sb_nil))))
  (ms_cons
  (sb_cons (pc2 := 5) (sx_iload_n (show decode cX9_decksDown 4 = .ok (.iload_n 3, 1) by decide +kernel) rfl) rfl
    (sb_cons (pc2 := 8) (sx_if_le (show decode cX9_decksDown 5 = .ok (.ifCond .le 24, 3) by decide +kernel) (by decide)) rfl
    (sb_cons (pc2 := 9) (sx_aload_n (show decode cX9_decksDown 8 = .ok (.aload_n 0, 1) by decide +kernel) rfl) rfl
    (sb_cons (pc2 := 12) (sx_getf (show decode cX9_decksDown 9 = .ok (.getfield 9, 3) by decide +kernel) rfl iX9 (by decide) wd_382) rfl
    (sb_cons (pc2 := 13) (sx_iload_n (show decode cX9_decksDown 12 = .ok (.iload_n 3, 1) by decide +kernel) rfl) rfl
    (sb_cons (pc2 := 14) (sx_ishr (show decode cX9_decksDown 13 = .ok (.ishr, 1) by decide +kernel)) rfl
    (sb_cons (pc2 := 15) (sx_iconst (show decode cX9_decksDown 14 = .ok (.iconst 1, 1) by decide +kernel) (by decide)) rfl
    (sb_cons (pc2 := 16) (sx_iand (show decode cX9_decksDown 15 = .ok (.iand, 1) by decide +kernel)) rfl
    (sb_cons (pc2 := 17) (sx_iconst (show decode cX9_decksDown 16 = .ok (.iconst 1, 1) by decide +kernel) (by decide)) rfl
    (sb_cons (pc2 := 20) (sx_icmp_ne (show decode cX9_decksDown 17 = .ok (.if_icmp .ne 12, 3) by decide +kernel) (by decide)) rfl
    (sb_cons (pc2 := 23) (sx_iinc (show decode cX9_decksDown 20 = .ok (.iinc 2 1, 3) by decide +kernel) (by decide)) rfl
    (sb_cons (pc2 := 26) (sx_iinc (show decode cX9_decksDown 23 = .ok (.iinc 3 (-1), 3) by decide +kernel) (by decide)) rfl
    (sb_cons (pc2 := 29) (px_snd_goto (show decode cX9_decksDown 26 = .ok (.goto (-22), 3) by decide +kernel) (by decide)) rfl sb_nil)))))))))))))
  (ms_cons
  (sb_cons (pc2 := 30) (sx_iload_n (show decode cX9_decksDown 29 = .ok (.iload_n 2, 1) by decide +kernel) rfl) rfl
    (sb_cons (pc2 := 31) (sx_reti (show decode cX9_decksDown 30 = .ok (.ireturn, 1) by decide +kernel) rfl) rfl sb_nil))
  ms_nil)))
