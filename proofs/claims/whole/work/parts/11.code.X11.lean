/-! the code of methods as pure instructions (written by wip/whole/gen.py) -/
def kX11_init (X : px_X) : px_B := [(0, [], [px_aload 0, px_pop, px_aload 0, px_new 7 [.int 0, .int 0, .int 0, .null, .null, .null, .null, .null, .null, .int 0, .null, .null, .null, .null, .int 0, .null, .null, .null], px_dup, px_cI X 79 1, px_putr 11 0, px_aload 0, px_new 10 [.int 0, .int 0, .null, .null, .null], px_dup, px_cI X 109 1, px_putr 11 1, px_aload 0, px_new 1 [.int 0, .int 0, .int 0, .null, .null, .null, .null], px_dup, px_cI X 4 1, px_putr 11 2, px_aload 0, px_new 5 [.null, .null, .int 0, .null, .int 0, .int 0, .int 0, .int 0], px_dup, px_cI X 48 1, px_putr 11 3, px_aload 0, px_new 8 [.null, .int 0, .int 0], px_dup, px_cI X 98 1, px_putr 11 4, px_aload 0, px_new 3 [.int 0, .int 0, .null, .null, .null, .null, .null, .int 0, .int 0, .null], px_dup, px_cI X 30 1, px_putr 11 5, px_aload 0, px_new 9 [.int 0, .int 0], px_dup, px_cI X 102 1, px_putr 11 6, px_aload 0, px_new 6 [.null, .null, .null], px_dup, px_cI X 69 1, px_putr 11 7, px_retv], 93)]
set_option maxRecDepth 100000 in
set_option maxHeartbeats 8000000 in
theorem sX11_init (d : Nat) (X : px_X) : px_MS d X YX11_init (kX11_init X) :=
  (ms_cons
  (sb_cons (pc2 := 1) (sx_aload_n (show decode cX11_init 0 = .ok (.aload_n 0, 1) by decide +kernel) rfl) rfl
    (sb_cons (pc2 := 4) (sx_pop (show decode cX11_init 1 = .ok (.invokespecial 3, 3) by decide +kernel) wd_431 wd_1 wd_2) rfl
    (sb_cons (pc2 := 5) (sx_aload_n (show decode cX11_init 4 = .ok (.aload_n 0, 1) by decide +kernel) rfl) rfl
    (sb_cons (pc2 := 8) (sx_new (show decode cX11_init 5 = .ok (.new 9, 3) by decide +kernel) rfl iX7 tyX7_ok wd_432 wd_433 wd_311 (px_dflt (by decide +kernel)) rfl (fun _ => rfl)) rfl
    (sb_cons (pc2 := 9) (sx_dup (show decode cX11_init 8 = .ok (.dup, 1) by decide +kernel)) rfl
    (sb_cons (pc2 := 12) (sx_cIN (Y' := YX7_init) (host := "WreckField") rfl (show decode cX11_init 9 = .ok (.invokespecial 11, 3) by decide +kernel) (List.mem_of_getElem? (i := 0) rfl) wd_435 wd_311 rfl rfl wd_434 ⟨by decide, by decide, by decide +kernel⟩ (by decide)) rfl
    (sb_cons (pc2 := 15) (sx_putr (show decode cX11_init 12 = .ok (.putfield 12, 3) by decide +kernel) rfl iX11 tyX11_ok nmX11 (by decide) wd_436 (Or.inl ⟨_, rfl⟩) (Or.inr ⟨rfl, rfl, rfl⟩)) rfl
    (sb_cons (pc2 := 16) (sx_aload_n (show decode cX11_init 15 = .ok (.aload_n 0, 1) by decide +kernel) rfl) rfl
    (sb_cons (pc2 := 19) (sx_new (show decode cX11_init 16 = .ok (.new 16, 3) by decide +kernel) rfl iX10 tyX10_ok wd_437 wd_438 wd_375 (px_dflt (by decide +kernel)) rfl (fun _ => rfl)) rfl
    (sb_cons (pc2 := 20) (sx_dup (show decode cX11_init 19 = .ok (.dup, 1) by decide +kernel)) rfl
    (sb_cons (pc2 := 23) (sx_cIN (Y' := YX10_init) (host := "WreckField") rfl (show decode cX11_init 20 = .ok (.invokespecial 18, 3) by decide +kernel) (List.mem_of_getElem? (i := 1) rfl) wd_440 wd_375 rfl rfl wd_439 ⟨by decide, by decide, by decide +kernel⟩ (by decide)) rfl
    (sb_cons (pc2 := 26) (sx_putr (show decode cX11_init 23 = .ok (.putfield 19, 3) by decide +kernel) rfl iX11 tyX11_ok nmX11 (by decide) wd_441 (Or.inl ⟨_, rfl⟩) (Or.inr ⟨rfl, rfl, rfl⟩)) rfl
    (sb_cons (pc2 := 27) (sx_aload_n (show decode cX11_init 26 = .ok (.aload_n 0, 1) by decide +kernel) rfl) rfl
    (sb_cons (pc2 := 30) (sx_new (show decode cX11_init 27 = .ok (.new 23, 3) by decide +kernel) rfl iX1 tyX1_ok wd_442 wd_443 wd_27 (px_dflt (by decide +kernel)) rfl (fun _ => rfl)) rfl
    (sb_cons (pc2 := 31) (sx_dup (show decode cX11_init 30 = .ok (.dup, 1) by decide +kernel)) rfl
    (sb_cons (pc2 := 34) (sx_cIN (Y' := YX1_init) (host := "WreckField") rfl (show decode cX11_init 31 = .ok (.invokespecial 25, 3) by decide +kernel) (List.mem_of_getElem? (i := 2) rfl) wd_445 wd_27 rfl rfl wd_444 ⟨by decide, by decide, by decide +kernel⟩ (by decide)) rfl
    (sb_cons (pc2 := 37) (sx_putr (show decode cX11_init 34 = .ok (.putfield 26, 3) by decide +kernel) rfl iX11 tyX11_ok nmX11 (by decide) wd_446 (Or.inl ⟨_, rfl⟩) (Or.inr ⟨rfl, rfl, rfl⟩)) rfl
    (sb_cons (pc2 := 38) (sx_aload_n (show decode cX11_init 37 = .ok (.aload_n 0, 1) by decide +kernel) rfl) rfl
    (sb_cons (pc2 := 41) (sx_new (show decode cX11_init 38 = .ok (.new 30, 3) by decide +kernel) rfl iX5 tyX5_ok wd_447 wd_448 wd_189 (px_dflt (by decide +kernel)) rfl (fun _ => rfl)) rfl
    (sb_cons (pc2 := 42) (sx_dup (show decode cX11_init 41 = .ok (.dup, 1) by decide +kernel)) rfl
    (sb_cons (pc2 := 45) (sx_cIN (Y' := YX5_init) (host := "WreckField") rfl (show decode cX11_init 42 = .ok (.invokespecial 32, 3) by decide +kernel) (List.mem_of_getElem? (i := 3) rfl) wd_450 wd_189 rfl rfl wd_449 ⟨by decide, by decide, by decide +kernel⟩ (by decide)) rfl
    (sb_cons (pc2 := 48) (sx_putr (show decode cX11_init 45 = .ok (.putfield 33, 3) by decide +kernel) rfl iX11 tyX11_ok nmX11 (by decide) wd_451 (Or.inl ⟨_, rfl⟩) (Or.inr ⟨rfl, rfl, rfl⟩)) rfl
    (sb_cons (pc2 := 49) (sx_aload_n (show decode cX11_init 48 = .ok (.aload_n 0, 1) by decide +kernel) rfl) rfl
    (sb_cons (pc2 := 52) (sx_new (show decode cX11_init 49 = .ok (.new 37, 3) by decide +kernel) rfl iX8 tyX8_ok wd_452 wd_453 wd_370 (px_dflt (by decide +kernel)) rfl (fun _ => rfl)) rfl
    (sb_cons (pc2 := 53) (sx_dup (show decode cX11_init 52 = .ok (.dup, 1) by decide +kernel)) rfl
    (sb_cons (pc2 := 56) (sx_cIN (Y' := YX8_init) (host := "WreckField") rfl (show decode cX11_init 53 = .ok (.invokespecial 39, 3) by decide +kernel) (List.mem_of_getElem? (i := 5) rfl) wd_455 wd_370 rfl rfl wd_454 ⟨by decide, by decide, by decide +kernel⟩ (by decide)) rfl
    (sb_cons (pc2 := 59) (sx_putr (show decode cX11_init 56 = .ok (.putfield 40, 3) by decide +kernel) rfl iX11 tyX11_ok nmX11 (by decide) wd_456 (Or.inl ⟨_, rfl⟩) (Or.inr ⟨rfl, rfl, rfl⟩)) rfl
    (sb_cons (pc2 := 60) (sx_aload_n (show decode cX11_init 59 = .ok (.aload_n 0, 1) by decide +kernel) rfl) rfl
    (sb_cons (pc2 := 63) (sx_new (show decode cX11_init 60 = .ok (.new 44, 3) by decide +kernel) rfl iX3 tyX3_ok wd_457 wd_458 wd_120 (px_dflt (by decide +kernel)) rfl (fun _ => rfl)) rfl
    (sb_cons (pc2 := 64) (sx_dup (show decode cX11_init 63 = .ok (.dup, 1) by decide +kernel)) rfl
    (sb_cons (pc2 := 67) (sx_cIN (Y' := YX3_init) (host := "WreckField") rfl (show decode cX11_init 64 = .ok (.invokespecial 46, 3) by decide +kernel) (List.mem_of_getElem? (i := 6) rfl) wd_460 wd_120 rfl rfl wd_459 ⟨by decide, by decide, by decide +kernel⟩ (by decide)) rfl
    (sb_cons (pc2 := 70) (sx_putr (show decode cX11_init 67 = .ok (.putfield 47, 3) by decide +kernel) rfl iX11 tyX11_ok nmX11 (by decide) wd_461 (Or.inl ⟨_, rfl⟩) (Or.inr ⟨rfl, rfl, rfl⟩)) rfl
    (sb_cons (pc2 := 71) (sx_aload_n (show decode cX11_init 70 = .ok (.aload_n 0, 1) by decide +kernel) rfl) rfl
    (sb_cons (pc2 := 74) (sx_new (show decode cX11_init 71 = .ok (.new 51, 3) by decide +kernel) rfl iX9 tyX9_ok wd_462 wd_463 wd_388 (px_dflt (by decide +kernel)) rfl (fun _ => rfl)) rfl
    (sb_cons (pc2 := 75) (sx_dup (show decode cX11_init 74 = .ok (.dup, 1) by decide +kernel)) rfl
    (sb_cons (pc2 := 78) (sx_cIN (Y' := YX9_init) (host := "WreckField") rfl (show decode cX11_init 75 = .ok (.invokespecial 53, 3) by decide +kernel) (List.mem_of_getElem? (i := 7) rfl) wd_465 wd_388 rfl rfl wd_464 ⟨by decide, by decide, by decide +kernel⟩ (by decide)) rfl
    (sb_cons (pc2 := 81) (sx_putr (show decode cX11_init 78 = .ok (.putfield 54, 3) by decide +kernel) rfl iX11 tyX11_ok nmX11 (by decide) wd_466 (Or.inl ⟨_, rfl⟩) (Or.inr ⟨rfl, rfl, rfl⟩)) rfl
    (sb_cons (pc2 := 82) (sx_aload_n (show decode cX11_init 81 = .ok (.aload_n 0, 1) by decide +kernel) rfl) rfl
    (sb_cons (pc2 := 85) (sx_new (show decode cX11_init 82 = .ok (.new 58, 3) by decide +kernel) rfl iX6 tyX6_ok wd_467 wd_468 wd_272 (px_dflt (by decide +kernel)) rfl (fun _ => rfl)) rfl
    (sb_cons (pc2 := 86) (sx_dup (show decode cX11_init 85 = .ok (.dup, 1) by decide +kernel)) rfl
    (sb_cons (pc2 := 89) (sx_cIN (Y' := YX6_init) (host := "WreckField") rfl (show decode cX11_init 86 = .ok (.invokespecial 60, 3) by decide +kernel) (List.mem_of_getElem? (i := 8) rfl) wd_470 wd_272 rfl rfl wd_469 ⟨by decide, by decide, by decide +kernel⟩ (by decide)) rfl
    (sb_cons (pc2 := 92) (sx_putr (show decode cX11_init 89 = .ok (.putfield 61, 3) by decide +kernel) rfl iX11 tyX11_ok nmX11 (by decide) wd_471 (Or.inl ⟨_, rfl⟩) (Or.inr ⟨rfl, rfl, rfl⟩)) rfl
    (sb_cons (pc2 := 93) (sx_retv (show decode cX11_init 92 = .ok (.return_, 1) by decide +kernel) rfl) rfl sb_nil)))))))))))))))))))))))))))))))))))))))))))
  ms_nil)
def kX11_mark (X : px_X) : px_B := [(0, [], [px_aload 0, px_getf 11 0, px_iload 1, px_iload 2, px_iload 3, px_cV X 80 4 7, px_reti], 11)]
set_option maxRecDepth 100000 in
set_option maxHeartbeats 8000000 in
theorem sX11_mark (d : Nat) (X : px_X) : px_MS d X YX11_mark (kX11_mark X) :=
  (ms_cons
  (sb_cons (pc2 := 1) (sx_aload_n (show decode cX11_mark 0 = .ok (.aload_n 0, 1) by decide +kernel) rfl) rfl
    (sb_cons (pc2 := 4) (sx_getf (show decode cX11_mark 1 = .ok (.getfield 12, 3) by decide +kernel) rfl iX11 (by decide) wd_436) rfl
    (sb_cons (pc2 := 5) (sx_iload_n (show decode cX11_mark 4 = .ok (.iload_n 1, 1) by decide +kernel) rfl) rfl
    (sb_cons (pc2 := 6) (sx_iload_n (show decode cX11_mark 5 = .ok (.iload_n 2, 1) by decide +kernel) rfl) rfl
    (sb_cons (pc2 := 7) (sx_iload_n (show decode cX11_mark 6 = .ok (.iload_n 3, 1) by decide +kernel) rfl) rfl
    (sb_cons (pc2 := 10) (sx_cV (Y' := YX7_addMark) (q := (RX7, TX7, 18)) rfl (show decode cX11_mark 7 = .ok (.invokevirtual 65, 3) by decide +kernel) rfl rfl (px_w4 wd_473 wd_474 wd_475 wd_311) wd_472 ⟨by decide, by decide, by decide +kernel⟩ (by decide)) rfl
    (sb_cons (pc2 := 11) (sx_reti (show decode cX11_mark 10 = .ok (.ireturn, 1) by decide +kernel) rfl) rfl sb_nil)))))))
  ms_nil)
def kX11_tape (X : px_X) : px_B := [(0, [], [px_aload 0, px_getf 11 0, px_iload 1, px_iload 2, px_iload 3, px_cV X 81 4 7, px_reti], 11)]
set_option maxRecDepth 100000 in
set_option maxHeartbeats 8000000 in
theorem sX11_tape (d : Nat) (X : px_X) : px_MS d X YX11_tape (kX11_tape X) :=
  (ms_cons
  (sb_cons (pc2 := 1) (sx_aload_n (show decode cX11_tape 0 = .ok (.aload_n 0, 1) by decide +kernel) rfl) rfl
    (sb_cons (pc2 := 4) (sx_getf (show decode cX11_tape 1 = .ok (.getfield 12, 3) by decide +kernel) rfl iX11 (by decide) wd_436) rfl
    (sb_cons (pc2 := 5) (sx_iload_n (show decode cX11_tape 4 = .ok (.iload_n 1, 1) by decide +kernel) rfl) rfl
    (sb_cons (pc2 := 6) (sx_iload_n (show decode cX11_tape 5 = .ok (.iload_n 2, 1) by decide +kernel) rfl) rfl
    (sb_cons (pc2 := 7) (sx_iload_n (show decode cX11_tape 6 = .ok (.iload_n 3, 1) by decide +kernel) rfl) rfl
    (sb_cons (pc2 := 10) (sx_cV (Y' := YX7_addTape) (q := (RX7, TX7, 18)) rfl (show decode cX11_tape 7 = .ok (.invokevirtual 69, 3) by decide +kernel) rfl rfl (px_w4 wd_477 wd_478 wd_479 wd_311) wd_476 ⟨by decide, by decide, by decide +kernel⟩ (by decide)) rfl
    (sb_cons (pc2 := 11) (sx_reti (show decode cX11_tape 10 = .ok (.ireturn, 1) by decide +kernel) rfl) rfl sb_nil)))))))
  ms_nil)
def kX11_tapes (X : px_X) : px_B := [(0, [], [px_aload 0, px_getf 11 7, px_iload 1, px_cV X 70 2 6, px_if1 (fun x => decide (x = 0)) 15, px_iload 3, px_if1 (fun x => decide (0 ≤ x)) 18], 15),
  (15, [false, false, false, false, false, false, false, false], [px_push (.int (-2)), px_reti], 18),
  (18, [true, true, true, true, false, false, false, false], [px_aload 0, px_getf 11 7, px_iload 1, px_cV X 75 2 6, px_istore 4, px_iload 4, px_if1 (fun x => decide (x = 0)) 36, px_iload 4, px_reti], 36),
  (36, [true, true, true, true, false, false, false, false], [px_iload 2, px_istore 5, px_push (.int 0), px_istore 6], 42),
  (42, [true, true, false, true, false, true, true, false], [px_iload 6, px_iload 3, px_if2 (fun x y => decide (y ≤ x)) 105, px_aload 0, px_getf 11 7, px_iload 1, px_iload 5, px_cV X 76 3 6, px_if1 (fun x => decide (x = 0)) 76, px_aload 0, px_getf 11 7, px_iload 1, px_iload 5, px_push (.int 2), (px_i2 fun x y => x + y), px_cV X 76 3 6, px_if1 (fun x => decide (¬ x = 0)) 79], 76),
  (76, [false, false, false, false, false, false, false, false], [px_push (.int (-12)), px_reti], 79),
  (79, [true, true, false, true, false, true, true, false], [px_aload 0, px_iload 1, px_iload 5, px_cV X 124 3 11, px_istore 7, px_iload 7, px_if1 (fun x => decide (0 ≤ x)) 96, px_iload 7, px_reti], 96),
  (96, [true, true, false, true, false, true, true, false], [px_iinc 5 3, px_iinc 6 1, px_goto 42], 105),
  (105, [true, false, false, false, false, false, false, false], [px_aload 0, px_getf 11 0, px_getf 7 1, px_reti], 113)]
set_option maxRecDepth 100000 in
set_option maxHeartbeats 8000000 in
theorem sX11_tapes (d : Nat) (X : px_X) : px_MS d X YX11_tapes (kX11_tapes X) :=
  (ms_cons
  (sb_cons (pc2 := 1) (sx_aload_n (show decode cX11_tapes 0 = .ok (.aload_n 0, 1) by decide +kernel) rfl) rfl
    (sb_cons (pc2 := 4) (sx_getf (show decode cX11_tapes 1 = .ok (.getfield 61, 3) by decide +kernel) rfl iX11 (by decide) wd_471) rfl
    (sb_cons (pc2 := 5) (sx_iload_n (show decode cX11_tapes 4 = .ok (.iload_n 1, 1) by decide +kernel) rfl) rfl
    (sb_cons (pc2 := 8) (sx_cV (Y' := YX6_has) (q := (RX6, TX6, 3)) rfl (show decode cX11_tapes 5 = .ok (.invokevirtual 73, 3) by decide +kernel) rfl rfl (px_w4 wd_480 wd_270 wd_271 wd_272) wd_268 ⟨by decide, by decide, by decide +kernel⟩ (by decide)) rfl
    (sb_cons (pc2 := 11) (sx_if_eq (show decode cX11_tapes 8 = .ok (.ifCond .eq 7, 3) by decide +kernel) (by decide)) rfl
    (sb_cons (pc2 := 12) (sx_iload_n (show decode cX11_tapes 11 = .ok (.iload_n 3, 1) by decide +kernel) rfl) rfl
    (sb_cons (pc2 := 15) (sx_if_ge (show decode cX11_tapes 12 = .ok (.ifCond .ge 6, 3) by decide +kernel) (by decide)) rfl sb_nil)))))))
  (ms_cons
  (sb_cons (pc2 := 17) (sx_bipush (show decode cX11_tapes 15 = .ok (.bipush (-2), 2) by decide +kernel) (by decide)) rfl
    (sb_cons (pc2 := 18) (sx_reti (show decode cX11_tapes 17 = .ok (.ireturn, 1) by decide +kernel) rfl) rfl sb_nil))
  (ms_cons
  (sb_cons (pc2 := 19) (sx_aload_n (show decode cX11_tapes 18 = .ok (.aload_n 0, 1) by decide +kernel) rfl) rfl
    (sb_cons (pc2 := 22) (sx_getf (show decode cX11_tapes 19 = .ok (.getfield 61, 3) by decide +kernel) rfl iX11 (by decide) wd_471) rfl
    (sb_cons (pc2 := 23) (sx_iload_n (show decode cX11_tapes 22 = .ok (.iload_n 1, 1) by decide +kernel) rfl) rfl
    (sb_cons (pc2 := 26) (sx_cV (Y' := YX6_floatsRefusal) (q := (RX6, TX6, 3)) rfl (show decode cX11_tapes 23 = .ok (.invokevirtual 77, 3) by decide +kernel) rfl rfl (px_w4 wd_481 wd_284 wd_285 wd_272) wd_282 ⟨by decide, by decide, by decide +kernel⟩ (by decide)) rfl
    (sb_cons (pc2 := 28) (sx_istore (show decode cX11_tapes 26 = .ok (.istore 4, 2) by decide +kernel)) rfl
    (sb_cons (pc2 := 30) (sx_iload (show decode cX11_tapes 28 = .ok (.iload 4, 2) by decide +kernel)) rfl
    (sb_cons (pc2 := 33) (sx_if_eq (show decode cX11_tapes 30 = .ok (.ifCond .eq 6, 3) by decide +kernel) (by decide)) rfl
    (sb_cons (pc2 := 35) (sx_iload (show decode cX11_tapes 33 = .ok (.iload 4, 2) by decide +kernel)) rfl
    (sb_cons (pc2 := 36) (sx_reti (show decode cX11_tapes 35 = .ok (.ireturn, 1) by decide +kernel) rfl) rfl sb_nil)))))))))
  (ms_cons
  (sb_cons (pc2 := 37) (sx_iload_n (show decode cX11_tapes 36 = .ok (.iload_n 2, 1) by decide +kernel) rfl) rfl
    (sb_cons (pc2 := 39) (sx_istore (show decode cX11_tapes 37 = .ok (.istore 5, 2) by decide +kernel)) rfl
    (sb_cons (pc2 := 40) (sx_iconst (show decode cX11_tapes 39 = .ok (.iconst 0, 1) by decide +kernel) (by decide)) rfl
    (sb_cons (pc2 := 42) (sx_istore (show decode cX11_tapes 40 = .ok (.istore 6, 2) by decide +kernel)) rfl sb_nil))))
  (ms_cons
  (sb_cons (pc2 := 44) (sx_iload (show decode cX11_tapes 42 = .ok (.iload 6, 2) by decide +kernel)) rfl
    (sb_cons (pc2 := 45) (sx_iload_n (show decode cX11_tapes 44 = .ok (.iload_n 3, 1) by decide +kernel) rfl) rfl
    (sb_cons (pc2 := 48) (sx_icmp_ge (show decode cX11_tapes 45 = .ok (.if_icmp .ge 60, 3) by decide +kernel) (by decide)) rfl
    (sb_cons (pc2 := 49) (sx_aload_n (show decode cX11_tapes 48 = .ok (.aload_n 0, 1) by decide +kernel) rfl) rfl
    (sb_cons (pc2 := 52) (sx_getf (show decode cX11_tapes 49 = .ok (.getfield 61, 3) by decide +kernel) rfl iX11 (by decide) wd_471) rfl
    (sb_cons (pc2 := 53) (sx_iload_n (show decode cX11_tapes 52 = .ok (.iload_n 1, 1) by decide +kernel) rfl) rfl
    (sb_cons (pc2 := 55) (sx_iload (show decode cX11_tapes 53 = .ok (.iload 5, 2) by decide +kernel)) rfl
    (sb_cons (pc2 := 58) (sx_cV (Y' := YX6_holds) (q := (RX6, TX6, 3)) rfl (show decode cX11_tapes 55 = .ok (.invokevirtual 81, 3) by decide +kernel) rfl rfl (px_w4 wd_482 wd_277 wd_278 wd_272) wd_275 ⟨by decide, by decide, by decide +kernel⟩ (by decide)) rfl
    (sb_cons (pc2 := 61) (sx_if_eq (show decode cX11_tapes 58 = .ok (.ifCond .eq 18, 3) by decide +kernel) (by decide)) rfl
    (sb_cons (pc2 := 62) (sx_aload_n (show decode cX11_tapes 61 = .ok (.aload_n 0, 1) by decide +kernel) rfl) rfl
    (sb_cons (pc2 := 65) (sx_getf (show decode cX11_tapes 62 = .ok (.getfield 61, 3) by decide +kernel) rfl iX11 (by decide) wd_471) rfl
    (sb_cons (pc2 := 66) (sx_iload_n (show decode cX11_tapes 65 = .ok (.iload_n 1, 1) by decide +kernel) rfl) rfl
    (sb_cons (pc2 := 68) (sx_iload (show decode cX11_tapes 66 = .ok (.iload 5, 2) by decide +kernel)) rfl
    (sb_cons (pc2 := 69) (sx_iconst (show decode cX11_tapes 68 = .ok (.iconst 2, 1) by decide +kernel) (by decide)) rfl
    (sb_cons (pc2 := 70) (sx_iadd (show decode cX11_tapes 69 = .ok (.iadd, 1) by decide +kernel)) rfl
    (sb_cons (pc2 := 73) (sx_cV (Y' := YX6_holds) (q := (RX6, TX6, 3)) rfl (show decode cX11_tapes 70 = .ok (.invokevirtual 81, 3) by decide +kernel) rfl rfl (px_w4 wd_482 wd_277 wd_278 wd_272) wd_275 ⟨by decide, by decide, by decide +kernel⟩ (by decide)) rfl
    (sb_cons (pc2 := 76) (sx_if_ne (show decode cX11_tapes 73 = .ok (.ifCond .ne 6, 3) by decide +kernel) (by decide)) rfl sb_nil)))))))))))))))))
  (ms_cons
  (sb_cons (pc2 := 78) (sx_bipush (show decode cX11_tapes 76 = .ok (.bipush (-12), 2) by decide +kernel) (by decide)) rfl
    (sb_cons (pc2 := 79) (sx_reti (show decode cX11_tapes 78 = .ok (.ireturn, 1) by decide +kernel) rfl) rfl sb_nil))
  (ms_cons
  (sb_cons (pc2 := 80) (sx_aload_n (show decode cX11_tapes 79 = .ok (.aload_n 0, 1) by decide +kernel) rfl) rfl
    (sb_cons (pc2 := 81) (sx_iload_n (show decode cX11_tapes 80 = .ok (.iload_n 1, 1) by decide +kernel) rfl) rfl
    (sb_cons (pc2 := 83) (sx_iload (show decode cX11_tapes 81 = .ok (.iload 5, 2) by decide +kernel)) rfl
    (sb_cons (pc2 := 86) (sx_cV (Y' := YX11_tapeFrom) (q := (RX11, TX11, 8)) rfl (show decode cX11_tapes 83 = .ok (.invokevirtual 85, 3) by decide +kernel) rfl rfl (px_w4 wd_484 wd_485 wd_486 wd_487) wd_483 ⟨by decide, by decide, by decide +kernel⟩ (by decide)) rfl
    (sb_cons (pc2 := 88) (sx_istore (show decode cX11_tapes 86 = .ok (.istore 7, 2) by decide +kernel)) rfl
    (sb_cons (pc2 := 90) (sx_iload (show decode cX11_tapes 88 = .ok (.iload 7, 2) by decide +kernel)) rfl
    (sb_cons (pc2 := 93) (sx_if_ge (show decode cX11_tapes 90 = .ok (.ifCond .ge 6, 3) by decide +kernel) (by decide)) rfl
    (sb_cons (pc2 := 95) (sx_iload (show decode cX11_tapes 93 = .ok (.iload 7, 2) by decide +kernel)) rfl
    (sb_cons (pc2 := 96) (sx_reti (show decode cX11_tapes 95 = .ok (.ireturn, 1) by decide +kernel) rfl) rfl sb_nil)))))))))
  (ms_cons
  (sb_cons (pc2 := 99) (sx_iinc (show decode cX11_tapes 96 = .ok (.iinc 5 3, 3) by decide +kernel) (by decide)) rfl
    (sb_cons (pc2 := 102) (sx_iinc (show decode cX11_tapes 99 = .ok (.iinc 6 1, 3) by decide +kernel) (by decide)) rfl
    (sb_cons (pc2 := 105) (px_snd_goto (show decode cX11_tapes 102 = .ok (.goto (-60), 3) by decide +kernel) (by decide)) rfl sb_nil)))
  (ms_cons
  (sb_cons (pc2 := 106) (sx_aload_n (show decode cX11_tapes 105 = .ok (.aload_n 0, 1) by decide +kernel) rfl) rfl
    (sb_cons (pc2 := 109) (sx_getf (show decode cX11_tapes 106 = .ok (.getfield 12, 3) by decide +kernel) rfl iX11 (by decide) wd_436) rfl
    (sb_cons (pc2 := 112) (sx_getf (show decode cX11_tapes 109 = .ok (.getfield 89, 3) by decide +kernel) rfl iX7 (by decide) wd_488) rfl
    (sb_cons (pc2 := 113) (sx_reti (show decode cX11_tapes 112 = .ok (.ireturn, 1) by decide +kernel) rfl) rfl sb_nil))))
  ms_nil)))))))))
def kX11_tapeFrom (X : px_X) : px_B := [(0, [], [px_aload 0, px_getf 11 7, px_iload 1, px_iload 2, px_cV X 77 3 6, px_if1 (fun x => decide (x = 0)) 40, px_aload 0, px_getf 11 7, px_iload 1, px_iload 2, px_push (.int 1), (px_i2 fun x y => x + y), px_cV X 77 3 6, px_if1 (fun x => decide (x = 0)) 40, px_aload 0, px_getf 11 7, px_iload 1, px_iload 2, px_push (.int 2), (px_i2 fun x y => x + y), px_cV X 77 3 6, px_if1 (fun x => decide (¬ x = 0)) 48], 40),
  (40, [true, false, false], [px_aload 0, px_getf 11 0, px_getf 7 1, px_reti], 48),
  (48, [true, true, true], [px_aload 0, px_getf 11 0, px_aload 0, px_getf 11 7, px_iload 1, px_iload 2, px_cV X 78 3 6, px_aload 0, px_getf 11 7, px_iload 1, px_iload 2, px_push (.int 1), (px_i2 fun x y => x + y), px_cV X 78 3 6, px_aload 0, px_getf 11 7, px_iload 1, px_iload 2, px_push (.int 2), (px_i2 fun x y => x + y), px_cV X 78 3 6, px_cV X 81 4 7, px_reti], 87)]
set_option maxRecDepth 100000 in
set_option maxHeartbeats 8000000 in
theorem sX11_tapeFrom (d : Nat) (X : px_X) : px_MS d X YX11_tapeFrom (kX11_tapeFrom X) :=
  (ms_cons
  (sb_cons (pc2 := 1) (sx_aload_n (show decode cX11_tapeFrom 0 = .ok (.aload_n 0, 1) by decide +kernel) rfl) rfl
    (sb_cons (pc2 := 4) (sx_getf (show decode cX11_tapeFrom 1 = .ok (.getfield 61, 3) by decide +kernel) rfl iX11 (by decide) wd_471) rfl
    (sb_cons (pc2 := 5) (sx_iload_n (show decode cX11_tapeFrom 4 = .ok (.iload_n 1, 1) by decide +kernel) rfl) rfl
    (sb_cons (pc2 := 6) (sx_iload_n (show decode cX11_tapeFrom 5 = .ok (.iload_n 2, 1) by decide +kernel) rfl) rfl
    (sb_cons (pc2 := 9) (sx_cV (Y' := YX6_isNumber) (q := (RX6, TX6, 3)) rfl (show decode cX11_tapeFrom 6 = .ok (.invokevirtual 93, 3) by decide +kernel) rfl rfl (px_w4 wd_490 wd_491 wd_492 wd_272) wd_489 ⟨by decide, by decide, by decide +kernel⟩ (by decide)) rfl
    (sb_cons (pc2 := 12) (sx_if_eq (show decode cX11_tapeFrom 9 = .ok (.ifCond .eq 31, 3) by decide +kernel) (by decide)) rfl
    (sb_cons (pc2 := 13) (sx_aload_n (show decode cX11_tapeFrom 12 = .ok (.aload_n 0, 1) by decide +kernel) rfl) rfl
    (sb_cons (pc2 := 16) (sx_getf (show decode cX11_tapeFrom 13 = .ok (.getfield 61, 3) by decide +kernel) rfl iX11 (by decide) wd_471) rfl
    (sb_cons (pc2 := 17) (sx_iload_n (show decode cX11_tapeFrom 16 = .ok (.iload_n 1, 1) by decide +kernel) rfl) rfl
    (sb_cons (pc2 := 18) (sx_iload_n (show decode cX11_tapeFrom 17 = .ok (.iload_n 2, 1) by decide +kernel) rfl) rfl
    (sb_cons (pc2 := 19) (sx_iconst (show decode cX11_tapeFrom 18 = .ok (.iconst 1, 1) by decide +kernel) (by decide)) rfl
    (sb_cons (pc2 := 20) (sx_iadd (show decode cX11_tapeFrom 19 = .ok (.iadd, 1) by decide +kernel)) rfl
    (sb_cons (pc2 := 23) (sx_cV (Y' := YX6_isNumber) (q := (RX6, TX6, 3)) rfl (show decode cX11_tapeFrom 20 = .ok (.invokevirtual 93, 3) by decide +kernel) rfl rfl (px_w4 wd_490 wd_491 wd_492 wd_272) wd_489 ⟨by decide, by decide, by decide +kernel⟩ (by decide)) rfl
    (sb_cons (pc2 := 26) (sx_if_eq (show decode cX11_tapeFrom 23 = .ok (.ifCond .eq 17, 3) by decide +kernel) (by decide)) rfl
    (sb_cons (pc2 := 27) (sx_aload_n (show decode cX11_tapeFrom 26 = .ok (.aload_n 0, 1) by decide +kernel) rfl) rfl
    (sb_cons (pc2 := 30) (sx_getf (show decode cX11_tapeFrom 27 = .ok (.getfield 61, 3) by decide +kernel) rfl iX11 (by decide) wd_471) rfl
    (sb_cons (pc2 := 31) (sx_iload_n (show decode cX11_tapeFrom 30 = .ok (.iload_n 1, 1) by decide +kernel) rfl) rfl
    (sb_cons (pc2 := 32) (sx_iload_n (show decode cX11_tapeFrom 31 = .ok (.iload_n 2, 1) by decide +kernel) rfl) rfl
    (sb_cons (pc2 := 33) (sx_iconst (show decode cX11_tapeFrom 32 = .ok (.iconst 2, 1) by decide +kernel) (by decide)) rfl
    (sb_cons (pc2 := 34) (sx_iadd (show decode cX11_tapeFrom 33 = .ok (.iadd, 1) by decide +kernel)) rfl
    (sb_cons (pc2 := 37) (sx_cV (Y' := YX6_isNumber) (q := (RX6, TX6, 3)) rfl (show decode cX11_tapeFrom 34 = .ok (.invokevirtual 93, 3) by decide +kernel) rfl rfl (px_w4 wd_490 wd_491 wd_492 wd_272) wd_489 ⟨by decide, by decide, by decide +kernel⟩ (by decide)) rfl
    (sb_cons (pc2 := 40) (sx_if_ne (show decode cX11_tapeFrom 37 = .ok (.ifCond .ne 11, 3) by decide +kernel) (by decide)) rfl sb_nil))))))))))))))))))))))
  (ms_cons
  (sb_cons (pc2 := 41) (sx_aload_n (show decode cX11_tapeFrom 40 = .ok (.aload_n 0, 1) by decide +kernel) rfl) rfl
    (sb_cons (pc2 := 44) (sx_getf (show decode cX11_tapeFrom 41 = .ok (.getfield 12, 3) by decide +kernel) rfl iX11 (by decide) wd_436) rfl
    (sb_cons (pc2 := 47) (sx_getf (show decode cX11_tapeFrom 44 = .ok (.getfield 89, 3) by decide +kernel) rfl iX7 (by decide) wd_488) rfl
    (sb_cons (pc2 := 48) (sx_reti (show decode cX11_tapeFrom 47 = .ok (.ireturn, 1) by decide +kernel) rfl) rfl sb_nil))))
  (ms_cons
  (sb_cons (pc2 := 49) (sx_aload_n (show decode cX11_tapeFrom 48 = .ok (.aload_n 0, 1) by decide +kernel) rfl) rfl
    (sb_cons (pc2 := 52) (sx_getf (show decode cX11_tapeFrom 49 = .ok (.getfield 12, 3) by decide +kernel) rfl iX11 (by decide) wd_436) rfl
    (sb_cons (pc2 := 53) (sx_aload_n (show decode cX11_tapeFrom 52 = .ok (.aload_n 0, 1) by decide +kernel) rfl) rfl
    (sb_cons (pc2 := 56) (sx_getf (show decode cX11_tapeFrom 53 = .ok (.getfield 61, 3) by decide +kernel) rfl iX11 (by decide) wd_471) rfl
    (sb_cons (pc2 := 57) (sx_iload_n (show decode cX11_tapeFrom 56 = .ok (.iload_n 1, 1) by decide +kernel) rfl) rfl
    (sb_cons (pc2 := 58) (sx_iload_n (show decode cX11_tapeFrom 57 = .ok (.iload_n 2, 1) by decide +kernel) rfl) rfl
    (sb_cons (pc2 := 61) (sx_cV (Y' := YX6_whole) (q := (RX6, TX6, 3)) rfl (show decode cX11_tapeFrom 58 = .ok (.invokevirtual 96, 3) by decide +kernel) rfl rfl (px_w4 wd_494 wd_495 wd_496 wd_272) wd_493 ⟨by decide, by decide, by decide +kernel⟩ (by decide)) rfl
    (sb_cons (pc2 := 62) (sx_aload_n (show decode cX11_tapeFrom 61 = .ok (.aload_n 0, 1) by decide +kernel) rfl) rfl
    (sb_cons (pc2 := 65) (sx_getf (show decode cX11_tapeFrom 62 = .ok (.getfield 61, 3) by decide +kernel) rfl iX11 (by decide) wd_471) rfl
    (sb_cons (pc2 := 66) (sx_iload_n (show decode cX11_tapeFrom 65 = .ok (.iload_n 1, 1) by decide +kernel) rfl) rfl
    (sb_cons (pc2 := 67) (sx_iload_n (show decode cX11_tapeFrom 66 = .ok (.iload_n 2, 1) by decide +kernel) rfl) rfl
    (sb_cons (pc2 := 68) (sx_iconst (show decode cX11_tapeFrom 67 = .ok (.iconst 1, 1) by decide +kernel) (by decide)) rfl
    (sb_cons (pc2 := 69) (sx_iadd (show decode cX11_tapeFrom 68 = .ok (.iadd, 1) by decide +kernel)) rfl
    (sb_cons (pc2 := 72) (sx_cV (Y' := YX6_whole) (q := (RX6, TX6, 3)) rfl (show decode cX11_tapeFrom 69 = .ok (.invokevirtual 96, 3) by decide +kernel) rfl rfl (px_w4 wd_494 wd_495 wd_496 wd_272) wd_493 ⟨by decide, by decide, by decide +kernel⟩ (by decide)) rfl
    (sb_cons (pc2 := 73) (sx_aload_n (show decode cX11_tapeFrom 72 = .ok (.aload_n 0, 1) by decide +kernel) rfl) rfl
    (sb_cons (pc2 := 76) (sx_getf (show decode cX11_tapeFrom 73 = .ok (.getfield 61, 3) by decide +kernel) rfl iX11 (by decide) wd_471) rfl
    (sb_cons (pc2 := 77) (sx_iload_n (show decode cX11_tapeFrom 76 = .ok (.iload_n 1, 1) by decide +kernel) rfl) rfl
    (sb_cons (pc2 := 78) (sx_iload_n (show decode cX11_tapeFrom 77 = .ok (.iload_n 2, 1) by decide +kernel) rfl) rfl
    (sb_cons (pc2 := 79) (sx_iconst (show decode cX11_tapeFrom 78 = .ok (.iconst 2, 1) by decide +kernel) (by decide)) rfl
    (sb_cons (pc2 := 80) (sx_iadd (show decode cX11_tapeFrom 79 = .ok (.iadd, 1) by decide +kernel)) rfl
    (sb_cons (pc2 := 83) (sx_cV (Y' := YX6_whole) (q := (RX6, TX6, 3)) rfl (show decode cX11_tapeFrom 80 = .ok (.invokevirtual 96, 3) by decide +kernel) rfl rfl (px_w4 wd_494 wd_495 wd_496 wd_272) wd_493 ⟨by decide, by decide, by decide +kernel⟩ (by decide)) rfl
    (sb_cons (pc2 := 86) (sx_cV (Y' := YX7_addTape) (q := (RX7, TX7, 18)) rfl (show decode cX11_tapeFrom 83 = .ok (.invokevirtual 69, 3) by decide +kernel) rfl rfl (px_w4 wd_477 wd_478 wd_479 wd_311) wd_476 ⟨by decide, by decide, by decide +kernel⟩ (by decide)) rfl
    (sb_cons (pc2 := 87) (sx_reti (show decode cX11_tapeFrom 86 = .ok (.ireturn, 1) by decide +kernel) rfl) rfl sb_nil)))))))))))))))))))))))
  ms_nil)))
def kX11_bar (X : px_X) : px_B := [(0, [], [px_aload 0, px_getf 11 0, px_iload 1, px_cV X 84 2 7, px_reti], 9)]
set_option maxRecDepth 100000 in
set_option maxHeartbeats 8000000 in
theorem sX11_bar (d : Nat) (X : px_X) : px_MS d X YX11_bar (kX11_bar X) :=
  (ms_cons
  (sb_cons (pc2 := 1) (sx_aload_n (show decode cX11_bar 0 = .ok (.aload_n 0, 1) by decide +kernel) rfl) rfl
    (sb_cons (pc2 := 4) (sx_getf (show decode cX11_bar 1 = .ok (.getfield 12, 3) by decide +kernel) rfl iX11 (by decide) wd_436) rfl
    (sb_cons (pc2 := 5) (sx_iload_n (show decode cX11_bar 4 = .ok (.iload_n 1, 1) by decide +kernel) rfl) rfl
    (sb_cons (pc2 := 8) (sx_cV (Y' := YX7_changeBar) (q := (RX7, TX7, 18)) rfl (show decode cX11_bar 5 = .ok (.invokevirtual 99, 3) by decide +kernel) rfl rfl (px_w4 wd_498 wd_499 wd_500 wd_311) wd_497 ⟨by decide, by decide, by decide +kernel⟩ (by decide)) rfl
    (sb_cons (pc2 := 9) (sx_reti (show decode cX11_bar 8 = .ok (.ireturn, 1) by decide +kernel) rfl) rfl sb_nil)))))
  ms_nil)
def kX11_fit (X : px_X) : px_B := [(0, [], [px_aload 0, px_getf 11 0, px_iload 1, px_iload 2, px_cV X 85 3 7, px_retl], 10)]
set_option maxRecDepth 100000 in
set_option maxHeartbeats 8000000 in
theorem sX11_fit (d : Nat) (X : px_X) : px_MS d X YX11_fit (kX11_fit X) :=
  (ms_cons
  (sb_cons (pc2 := 1) (sx_aload_n (show decode cX11_fit 0 = .ok (.aload_n 0, 1) by decide +kernel) rfl) rfl
    (sb_cons (pc2 := 4) (sx_getf (show decode cX11_fit 1 = .ok (.getfield 12, 3) by decide +kernel) rfl iX11 (by decide) wd_436) rfl
    (sb_cons (pc2 := 5) (sx_iload_n (show decode cX11_fit 4 = .ok (.iload_n 1, 1) by decide +kernel) rfl) rfl
    (sb_cons (pc2 := 6) (sx_iload_n (show decode cX11_fit 5 = .ok (.iload_n 2, 1) by decide +kernel) rfl) rfl
    (sb_cons (pc2 := 9) (sx_cV (Y' := YX7_markTold) (q := (RX7, TX7, 18)) rfl (show decode cX11_fit 6 = .ok (.invokevirtual 102, 3) by decide +kernel) rfl rfl (px_w4 wd_502 wd_503 wd_504 wd_311) wd_501 ⟨by decide, by decide, by decide +kernel⟩ (by decide)) rfl
    (sb_cons (pc2 := 10) (sx_retl (show decode cX11_fit 9 = .ok (.lreturn, 1) by decide +kernel) rfl) rfl sb_nil))))))
  ms_nil)
def kX11_tapeTold (X : px_X) : px_B := [(0, [], [px_aload 0, px_getf 11 0, px_iload 1, px_iload 2, px_cV X 86 3 7, px_retl], 10)]
set_option maxRecDepth 100000 in
set_option maxHeartbeats 8000000 in
theorem sX11_tapeTold (d : Nat) (X : px_X) : px_MS d X YX11_tapeTold (kX11_tapeTold X) :=
  (ms_cons
  (sb_cons (pc2 := 1) (sx_aload_n (show decode cX11_tapeTold 0 = .ok (.aload_n 0, 1) by decide +kernel) rfl) rfl
    (sb_cons (pc2 := 4) (sx_getf (show decode cX11_tapeTold 1 = .ok (.getfield 12, 3) by decide +kernel) rfl iX11 (by decide) wd_436) rfl
    (sb_cons (pc2 := 5) (sx_iload_n (show decode cX11_tapeTold 4 = .ok (.iload_n 1, 1) by decide +kernel) rfl) rfl
    (sb_cons (pc2 := 6) (sx_iload_n (show decode cX11_tapeTold 5 = .ok (.iload_n 2, 1) by decide +kernel) rfl) rfl
    (sb_cons (pc2 := 9) (sx_cV (Y' := YX7_tapeItem) (q := (RX7, TX7, 18)) rfl (show decode cX11_tapeTold 6 = .ok (.invokevirtual 106, 3) by decide +kernel) rfl rfl (px_w4 wd_506 wd_507 wd_508 wd_311) wd_505 ⟨by decide, by decide, by decide +kernel⟩ (by decide)) rfl
    (sb_cons (pc2 := 10) (sx_retl (show decode cX11_tapeTold 9 = .ok (.lreturn, 1) by decide +kernel) rfl) rfl sb_nil))))))
  ms_nil)
def kX11_sum (X : px_X) : px_B := [(0, [], [px_aload 0, px_getf 11 0, px_cV X 87 1 7, px_retl], 8)]
set_option maxRecDepth 100000 in
set_option maxHeartbeats 8000000 in
theorem sX11_sum (d : Nat) (X : px_X) : px_MS d X YX11_sum (kX11_sum X) :=
  (ms_cons
  (sb_cons (pc2 := 1) (sx_aload_n (show decode cX11_sum 0 = .ok (.aload_n 0, 1) by decide +kernel) rfl) rfl
    (sb_cons (pc2 := 4) (sx_getf (show decode cX11_sum 1 = .ok (.getfield 12, 3) by decide +kernel) rfl iX11 (by decide) wd_436) rfl
    (sb_cons (pc2 := 7) (sx_cV (Y' := YX7_squares) (q := (RX7, TX7, 18)) rfl (show decode cX11_sum 4 = .ok (.invokevirtual 109, 3) by decide +kernel) rfl rfl (px_w4 wd_510 wd_511 wd_512 wd_311) wd_509 ⟨by decide, by decide, by decide +kernel⟩ (by decide)) rfl
    (sb_cons (pc2 := 8) (sx_retl (show decode cX11_sum 7 = .ok (.lreturn, 1) by decide +kernel) rfl) rfl sb_nil))))
  ms_nil)
def kX11_find (X : px_X) : px_B := [(0, [], [px_aload 0, px_getf 11 1, px_iload 1, px_iload 2, px_iload 3, px_iload 4, px_cV X 110 5 10, px_reti], 13)]
set_option maxRecDepth 100000 in
set_option maxHeartbeats 8000000 in
theorem sX11_find (d : Nat) (X : px_X) : px_MS d X YX11_find (kX11_find X) :=
  (ms_cons
  (sb_cons (pc2 := 1) (sx_aload_n (show decode cX11_find 0 = .ok (.aload_n 0, 1) by decide +kernel) rfl) rfl
    (sb_cons (pc2 := 4) (sx_getf (show decode cX11_find 1 = .ok (.getfield 19, 3) by decide +kernel) rfl iX11 (by decide) wd_441) rfl
    (sb_cons (pc2 := 5) (sx_iload_n (show decode cX11_find 4 = .ok (.iload_n 1, 1) by decide +kernel) rfl) rfl
    (sb_cons (pc2 := 6) (sx_iload_n (show decode cX11_find 5 = .ok (.iload_n 2, 1) by decide +kernel) rfl) rfl
    (sb_cons (pc2 := 7) (sx_iload_n (show decode cX11_find 6 = .ok (.iload_n 3, 1) by decide +kernel) rfl) rfl
    (sb_cons (pc2 := 9) (sx_iload (show decode cX11_find 7 = .ok (.iload 4, 2) by decide +kernel)) rfl
    (sb_cons (pc2 := 12) (sx_cV (Y' := YX10_addFind) (q := (RX10, TX10, 5)) rfl (show decode cX11_find 9 = .ok (.invokevirtual 113, 3) by decide +kernel) rfl rfl (px_w4 wd_514 wd_515 wd_516 wd_375) wd_513 ⟨by decide, by decide, by decide +kernel⟩ (by decide)) rfl
    (sb_cons (pc2 := 13) (sx_reti (show decode cX11_find 12 = .ok (.ireturn, 1) by decide +kernel) rfl) rfl sb_nil))))))))
  ms_nil)
def kX11_hole (X : px_X) : px_B := [(0, [], [px_aload 0, px_getf 11 1, px_iload 1, px_cV X 112 2 10, px_astore 3, px_aload 3, px_ifnull 23, px_iload 2, px_if1 (fun x => decide (x < 0)) 23, px_iload 2, px_push (.int 99), px_if2 (fun x y => decide (x ≤ y)) 26], 23),
  (23, [false, false, false, false], [px_push (.int (-2)), px_reti], 26),
  (26, [false, false, true, true], [px_aload 3, px_iload 2, px_cV X 25 2 2, px_reti], 32)]
set_option maxRecDepth 100000 in
set_option maxHeartbeats 8000000 in
theorem sX11_hole (d : Nat) (X : px_X) : px_MS d X YX11_hole (kX11_hole X) :=
  (ms_cons
  (sb_cons (pc2 := 1) (sx_aload_n (show decode cX11_hole 0 = .ok (.aload_n 0, 1) by decide +kernel) rfl) rfl
    (sb_cons (pc2 := 4) (sx_getf (show decode cX11_hole 1 = .ok (.getfield 19, 3) by decide +kernel) rfl iX11 (by decide) wd_441) rfl
    (sb_cons (pc2 := 5) (sx_iload_n (show decode cX11_hole 4 = .ok (.iload_n 1, 1) by decide +kernel) rfl) rfl
    (sb_cons (pc2 := 8) (sx_cV (Y' := YX10_timberAt) (q := (RX10, TX10, 5)) rfl (show decode cX11_hole 5 = .ok (.invokevirtual 117, 3) by decide +kernel) rfl rfl (px_w4 wd_517 wd_373 wd_374 wd_375) wd_371 ⟨by decide, by decide, by decide +kernel⟩ (by decide)) rfl
    (sb_cons (pc2 := 9) (sx_astore_n (show decode cX11_hole 8 = .ok (.astore_n 3, 1) by decide +kernel) rfl) rfl
    (sb_cons (pc2 := 10) (sx_aload_n (show decode cX11_hole 9 = .ok (.aload_n 3, 1) by decide +kernel) rfl) rfl
    (sb_cons (pc2 := 13) (sx_ifnull (show decode cX11_hole 10 = .ok (.ifnull 13, 3) by decide +kernel) (by decide)) rfl
    (sb_cons (pc2 := 14) (sx_iload_n (show decode cX11_hole 13 = .ok (.iload_n 2, 1) by decide +kernel) rfl) rfl
    (sb_cons (pc2 := 17) (sx_if_lt (show decode cX11_hole 14 = .ok (.ifCond .lt 9, 3) by decide +kernel) (by decide)) rfl
    (sb_cons (pc2 := 18) (sx_iload_n (show decode cX11_hole 17 = .ok (.iload_n 2, 1) by decide +kernel) rfl) rfl
    (sb_cons (pc2 := 20) (sx_bipush (show decode cX11_hole 18 = .ok (.bipush 99, 2) by decide +kernel) (by decide)) rfl
    (sb_cons (pc2 := 23) (sx_icmp_le (show decode cX11_hole 20 = .ok (.if_icmp .le 6, 3) by decide +kernel) (by decide)) rfl sb_nil))))))))))))
  (ms_cons
  (sb_cons (pc2 := 25) (sx_bipush (show decode cX11_hole 23 = .ok (.bipush (-2), 2) by decide +kernel) (by decide)) rfl
    (sb_cons (pc2 := 26) (sx_reti (show decode cX11_hole 25 = .ok (.ireturn, 1) by decide +kernel) rfl) rfl sb_nil))
  (ms_cons
  (sb_cons (pc2 := 27) (sx_aload_n (show decode cX11_hole 26 = .ok (.aload_n 3, 1) by decide +kernel) rfl) rfl
    (sb_cons (pc2 := 28) (sx_iload_n (show decode cX11_hole 27 = .ok (.iload_n 2, 1) by decide +kernel) rfl) rfl
    (sb_cons (pc2 := 31) (sx_cV (Y' := YX2_addHole) (q := (RX2, TX2, 9)) rfl (show decode cX11_hole 28 = .ok (.invokevirtual 121, 3) by decide +kernel) rfl rfl (px_w4 wd_519 wd_520 wd_521 wd_100) wd_518 ⟨by decide, by decide, by decide +kernel⟩ (by decide)) rfl
    (sb_cons (pc2 := 32) (sx_reti (show decode cX11_hole 31 = .ok (.ireturn, 1) by decide +kernel) rfl) rfl sb_nil))))
  ms_nil)))
def kX11_findTold (X : px_X) : px_B := [(0, [], [px_aload 0, px_getf 11 1, px_iload 1, px_cV X 111 2 10, px_astore 3, px_aload 3, px_ifnonnull 18, px_push (.int (-2)), px_goto 23], 18),
  (18, [false, false, true, true], [px_aload 3, px_iload 2, px_cV X 26 2 2], 23),
  (23, [false, false, false, false], [px_reti], 24)]
set_option maxRecDepth 100000 in
set_option maxHeartbeats 8000000 in
theorem sX11_findTold (d : Nat) (X : px_X) : px_MS d X YX11_findTold (kX11_findTold X) :=
  (ms_cons
  (sb_cons (pc2 := 1) (sx_aload_n (show decode cX11_findTold 0 = .ok (.aload_n 0, 1) by decide +kernel) rfl) rfl
    (sb_cons (pc2 := 4) (sx_getf (show decode cX11_findTold 1 = .ok (.getfield 19, 3) by decide +kernel) rfl iX11 (by decide) wd_441) rfl
    (sb_cons (pc2 := 5) (sx_iload_n (show decode cX11_findTold 4 = .ok (.iload_n 1, 1) by decide +kernel) rfl) rfl
    (sb_cons (pc2 := 8) (sx_cV (Y' := YX10_findAt) (q := (RX10, TX10, 5)) rfl (show decode cX11_findTold 5 = .ok (.invokevirtual 126, 3) by decide +kernel) rfl rfl (px_w4 wd_522 wd_409 wd_410 wd_375) wd_407 ⟨by decide, by decide, by decide +kernel⟩ (by decide)) rfl
    (sb_cons (pc2 := 9) (sx_astore_n (show decode cX11_findTold 8 = .ok (.astore_n 3, 1) by decide +kernel) rfl) rfl
    (sb_cons (pc2 := 10) (sx_aload_n (show decode cX11_findTold 9 = .ok (.aload_n 3, 1) by decide +kernel) rfl) rfl
    (sb_cons (pc2 := 13) (sx_ifnonnull (show decode cX11_findTold 10 = .ok (.ifnonnull 8, 3) by decide +kernel) (by decide)) rfl
    (sb_cons (pc2 := 15) (sx_bipush (show decode cX11_findTold 13 = .ok (.bipush (-2), 2) by decide +kernel) (by decide)) rfl
    (sb_cons (pc2 := 18) (px_snd_goto (show decode cX11_findTold 15 = .ok (.goto 8, 3) by decide +kernel) (by decide)) rfl sb_nil)))))))))
  (ms_cons
  (sb_cons (pc2 := 19) (sx_aload_n (show decode cX11_findTold 18 = .ok (.aload_n 3, 1) by decide +kernel) rfl) rfl
    (sb_cons (pc2 := 20) (sx_iload_n (show decode cX11_findTold 19 = .ok (.iload_n 2, 1) by decide +kernel) rfl) rfl
    (sb_cons (pc2 := 23) (sx_cV (Y' := YX2_item) (q := (RX2, TX2, 9)) rfl (show decode cX11_findTold 20 = .ok (.invokevirtual 129, 3) by decide +kernel) rfl rfl (px_w4 wd_524 wd_525 wd_526 wd_100) wd_523 ⟨by decide, by decide, by decide +kernel⟩ (by decide)) rfl sb_nil)))
  (ms_cons
  (sb_cons (pc2 := 24) (sx_reti (show decode cX11_findTold 23 = .ok (.ireturn, 1) by decide +kernel) rfl) rfl sb_nil)
  ms_nil)))
def kX11_tank (X : px_X) : px_B := [(0, [], [px_aload 0, px_getf 11 1, px_iload 1, px_iload 2, px_cV X 114 3 10, px_reti], 10)]
set_option maxRecDepth 100000 in
set_option maxHeartbeats 8000000 in
theorem sX11_tank (d : Nat) (X : px_X) : px_MS d X YX11_tank (kX11_tank X) :=
  (ms_cons
  (sb_cons (pc2 := 1) (sx_aload_n (show decode cX11_tank 0 = .ok (.aload_n 0, 1) by decide +kernel) rfl) rfl
    (sb_cons (pc2 := 4) (sx_getf (show decode cX11_tank 1 = .ok (.getfield 19, 3) by decide +kernel) rfl iX11 (by decide) wd_441) rfl
    (sb_cons (pc2 := 5) (sx_iload_n (show decode cX11_tank 4 = .ok (.iload_n 1, 1) by decide +kernel) rfl) rfl
    (sb_cons (pc2 := 6) (sx_iload_n (show decode cX11_tank 5 = .ok (.iload_n 2, 1) by decide +kernel) rfl) rfl
    (sb_cons (pc2 := 9) (sx_cV (Y' := YX10_addTank) (q := (RX10, TX10, 5)) rfl (show decode cX11_tank 6 = .ok (.invokevirtual 132, 3) by decide +kernel) rfl rfl (px_w4 wd_528 wd_529 wd_530 wd_375) wd_527 ⟨by decide, by decide, by decide +kernel⟩ (by decide)) rfl
    (sb_cons (pc2 := 10) (sx_reti (show decode cX11_tank 9 = .ok (.ireturn, 1) by decide +kernel) rfl) rfl sb_nil))))))
  ms_nil)
def kX11_tankTold (X : px_X) : px_B := [(0, [], [px_aload 0, px_getf 11 1, px_iload 1, px_iload 2, px_cV X 116 3 10, px_reti], 10)]
set_option maxRecDepth 100000 in
set_option maxHeartbeats 8000000 in
theorem sX11_tankTold (d : Nat) (X : px_X) : px_MS d X YX11_tankTold (kX11_tankTold X) :=
  (ms_cons
  (sb_cons (pc2 := 1) (sx_aload_n (show decode cX11_tankTold 0 = .ok (.aload_n 0, 1) by decide +kernel) rfl) rfl
    (sb_cons (pc2 := 4) (sx_getf (show decode cX11_tankTold 1 = .ok (.getfield 19, 3) by decide +kernel) rfl iX11 (by decide) wd_441) rfl
    (sb_cons (pc2 := 5) (sx_iload_n (show decode cX11_tankTold 4 = .ok (.iload_n 1, 1) by decide +kernel) rfl) rfl
    (sb_cons (pc2 := 6) (sx_iload_n (show decode cX11_tankTold 5 = .ok (.iload_n 2, 1) by decide +kernel) rfl) rfl
    (sb_cons (pc2 := 9) (sx_cV (Y' := YX10_tankItem) (q := (RX10, TX10, 5)) rfl (show decode cX11_tankTold 6 = .ok (.invokevirtual 135, 3) by decide +kernel) rfl rfl (px_w4 wd_532 wd_533 wd_534 wd_375) wd_531 ⟨by decide, by decide, by decide +kernel⟩ (by decide)) rfl
    (sb_cons (pc2 := 10) (sx_reti (show decode cX11_tankTold 9 = .ok (.ireturn, 1) by decide +kernel) rfl) rfl sb_nil))))))
  ms_nil)
def kX11_lift (X : px_X) : px_B := [(0, [], [px_aload 0, px_iload 1, px_iload 2, px_iload 3, px_cV X 136 4 11, px_istore 4, px_iload 4, px_if1 (fun x => decide (0 ≤ x)) 17, px_iload 4, px_reti], 17),
  (17, [true, true, true, true, true, false], [px_iload 4, px_if1 (fun x => decide (x ≤ 0)) 28, px_push (.int (-20)), px_iload 4, (px_i2 fun x y => x - y), px_reti], 28),
  (28, [true, true, true, true, false, false], [px_aload 0, px_getf 11 1, px_iload 1, px_cV X 111 2 10, px_astore 5, px_aload 5, px_ifnull 50, px_aload 5, px_iload 2, px_iload 3, px_cV X 28 3 2], 50),
  (50, [false, false, false, false, false, false], [px_push (.int 1), px_reti], 52)]
set_option maxRecDepth 100000 in
set_option maxHeartbeats 8000000 in
theorem sX11_lift (d : Nat) (X : px_X) : px_MS d X YX11_lift (kX11_lift X) :=
  (ms_cons
  (sb_cons (pc2 := 1) (sx_aload_n (show decode cX11_lift 0 = .ok (.aload_n 0, 1) by decide +kernel) rfl) rfl
    (sb_cons (pc2 := 2) (sx_iload_n (show decode cX11_lift 1 = .ok (.iload_n 1, 1) by decide +kernel) rfl) rfl
    (sb_cons (pc2 := 3) (sx_iload_n (show decode cX11_lift 2 = .ok (.iload_n 2, 1) by decide +kernel) rfl) rfl
    (sb_cons (pc2 := 4) (sx_iload_n (show decode cX11_lift 3 = .ok (.iload_n 3, 1) by decide +kernel) rfl) rfl
    (sb_cons (pc2 := 7) (sx_cV (Y' := YX11_liftRefusal) (q := (RX11, TX11, 8)) rfl (show decode cX11_lift 4 = .ok (.invokevirtual 138, 3) by decide +kernel) rfl rfl (px_w4 wd_536 wd_537 wd_538 wd_487) wd_535 ⟨by decide, by decide, by decide +kernel⟩ (by decide)) rfl
    (sb_cons (pc2 := 9) (sx_istore (show decode cX11_lift 7 = .ok (.istore 4, 2) by decide +kernel)) rfl
    (sb_cons (pc2 := 11) (sx_iload (show decode cX11_lift 9 = .ok (.iload 4, 2) by decide +kernel)) rfl
    (sb_cons (pc2 := 14) (sx_if_ge (show decode cX11_lift 11 = .ok (.ifCond .ge 6, 3) by decide +kernel) (by decide)) rfl
    (sb_cons (pc2 := 16) (sx_iload (show decode cX11_lift 14 = .ok (.iload 4, 2) by decide +kernel)) rfl
    (sb_cons (pc2 := 17) (sx_reti (show decode cX11_lift 16 = .ok (.ireturn, 1) by decide +kernel) rfl) rfl sb_nil))))))))))
  (ms_cons
  (sb_cons (pc2 := 19) (sx_iload (show decode cX11_lift 17 = .ok (.iload 4, 2) by decide +kernel)) rfl
    (sb_cons (pc2 := 22) (sx_if_le (show decode cX11_lift 19 = .ok (.ifCond .le 9, 3) by decide +kernel) (by decide)) rfl
    (sb_cons (pc2 := 24) (sx_bipush (show decode cX11_lift 22 = .ok (.bipush (-20), 2) by decide +kernel) (by decide)) rfl
    (sb_cons (pc2 := 26) (sx_iload (show decode cX11_lift 24 = .ok (.iload 4, 2) by decide +kernel)) rfl
    (sb_cons (pc2 := 27) (sx_isub (show decode cX11_lift 26 = .ok (.isub, 1) by decide +kernel)) rfl
    (sb_cons (pc2 := 28) (sx_reti (show decode cX11_lift 27 = .ok (.ireturn, 1) by decide +kernel) rfl) rfl sb_nil))))))
  (ms_cons
  (sb_cons (pc2 := 29) (sx_aload_n (show decode cX11_lift 28 = .ok (.aload_n 0, 1) by decide +kernel) rfl) rfl
    (sb_cons (pc2 := 32) (sx_getf (show decode cX11_lift 29 = .ok (.getfield 19, 3) by decide +kernel) rfl iX11 (by decide) wd_441) rfl
    (sb_cons (pc2 := 33) (sx_iload_n (show decode cX11_lift 32 = .ok (.iload_n 1, 1) by decide +kernel) rfl) rfl
    (sb_cons (pc2 := 36) (sx_cV (Y' := YX10_findAt) (q := (RX10, TX10, 5)) rfl (show decode cX11_lift 33 = .ok (.invokevirtual 126, 3) by decide +kernel) rfl rfl (px_w4 wd_522 wd_409 wd_410 wd_375) wd_407 ⟨by decide, by decide, by decide +kernel⟩ (by decide)) rfl
    (sb_cons (pc2 := 38) (sx_astore (show decode cX11_lift 36 = .ok (.astore 5, 2) by decide +kernel)) rfl
    (sb_cons (pc2 := 40) (sx_aload (show decode cX11_lift 38 = .ok (.aload 5, 2) by decide +kernel)) rfl
    (sb_cons (pc2 := 43) (sx_ifnull (show decode cX11_lift 40 = .ok (.ifnull 10, 3) by decide +kernel) (by decide)) rfl
    (sb_cons (pc2 := 45) (sx_aload (show decode cX11_lift 43 = .ok (.aload 5, 2) by decide +kernel)) rfl
    (sb_cons (pc2 := 46) (sx_iload_n (show decode cX11_lift 45 = .ok (.iload_n 2, 1) by decide +kernel) rfl) rfl
    (sb_cons (pc2 := 47) (sx_iload_n (show decode cX11_lift 46 = .ok (.iload_n 3, 1) by decide +kernel) rfl) rfl
    (sb_cons (pc2 := 50) (sx_cV (Y' := YX2_goInto) (q := (RX2, TX2, 9)) rfl (show decode cX11_lift 47 = .ok (.invokevirtual 141, 3) by decide +kernel) rfl rfl (px_w4 wd_540 wd_541 wd_542 wd_100) wd_539 ⟨by decide, by decide, by decide +kernel⟩ (by decide)) rfl sb_nil)))))))))))
  (ms_cons
  (sb_cons (pc2 := 51) (sx_iconst (show decode cX11_lift 50 = .ok (.iconst 1, 1) by decide +kernel) (by decide)) rfl
    (sb_cons (pc2 := 52) (sx_reti (show decode cX11_lift 51 = .ok (.ireturn, 1) by decide +kernel) rfl) rfl sb_nil))
  ms_nil))))
def kX11_why (X : px_X) : px_B := [(0, [], [px_aload 0, px_iload 1, px_iload 2, px_iload 3, px_cV X 136 4 11, px_reti], 8)]
set_option maxRecDepth 100000 in
set_option maxHeartbeats 8000000 in
theorem sX11_why (d : Nat) (X : px_X) : px_MS d X YX11_why (kX11_why X) :=
  (ms_cons
  (sb_cons (pc2 := 1) (sx_aload_n (show decode cX11_why 0 = .ok (.aload_n 0, 1) by decide +kernel) rfl) rfl
    (sb_cons (pc2 := 2) (sx_iload_n (show decode cX11_why 1 = .ok (.iload_n 1, 1) by decide +kernel) rfl) rfl
    (sb_cons (pc2 := 3) (sx_iload_n (show decode cX11_why 2 = .ok (.iload_n 2, 1) by decide +kernel) rfl) rfl
    (sb_cons (pc2 := 4) (sx_iload_n (show decode cX11_why 3 = .ok (.iload_n 3, 1) by decide +kernel) rfl) rfl
    (sb_cons (pc2 := 7) (sx_cV (Y' := YX11_liftRefusal) (q := (RX11, TX11, 8)) rfl (show decode cX11_why 4 = .ok (.invokevirtual 138, 3) by decide +kernel) rfl rfl (px_w4 wd_536 wd_537 wd_538 wd_487) wd_535 ⟨by decide, by decide, by decide +kernel⟩ (by decide)) rfl
    (sb_cons (pc2 := 8) (sx_reti (show decode cX11_why 7 = .ok (.ireturn, 1) by decide +kernel) rfl) rfl sb_nil))))))
  ms_nil)
def kX11_liftRefusal (X : px_X) : px_B := [(0, [], [px_aload 0, px_getf 11 1, px_iload 1, px_cV X 111 2 10, px_astore 4, px_aload 4, px_ifnull 33, px_aload 0, px_getf 11 1, px_iload 2, px_cV X 115 2 10, px_if1 (fun x => decide (x = 0)) 33, px_iload 3, px_cS X 137 1, px_if1 (fun x => decide (¬ x = 0)) 36], 33),
  (33, [false, false, false, false, false, false, false], [px_push (.int (-2)), px_reti], 36),
  (36, [true, false, true, true, true, false, false], [px_aload 0, px_getf 11 1, px_aload 4, px_iload 2, px_cV X 119 3 10, px_istore 5, px_iload 5, px_if1 (fun x => decide (x = 0)) 56, px_iload 5, px_reti], 56),
  (56, [true, false, false, true, true, false, false], [px_aload 0, px_getf 11 3, px_getf 5 0, px_aload 4, px_iload 3, px_cV X 42 3 4, px_istore 6, px_iload 6, px_if1 (fun x => decide (0 ≤ x)) 80, px_push (.int 0), px_goto 84], 80),
  (80, [false, false, false, false, false, false, true], [px_push (.int 4), px_iload 6, (px_i2 fun x y => x + y)], 84),
  (84, [false, false, false, false, false, false, false], [px_reti], 85)]
set_option maxRecDepth 100000 in
set_option maxHeartbeats 8000000 in
theorem sX11_liftRefusal (d : Nat) (X : px_X) : px_MS d X YX11_liftRefusal (kX11_liftRefusal X) :=
  (ms_cons
  (sb_cons (pc2 := 1) (sx_aload_n (show decode cX11_liftRefusal 0 = .ok (.aload_n 0, 1) by decide +kernel) rfl) rfl
    (sb_cons (pc2 := 4) (sx_getf (show decode cX11_liftRefusal 1 = .ok (.getfield 19, 3) by decide +kernel) rfl iX11 (by decide) wd_441) rfl
    (sb_cons (pc2 := 5) (sx_iload_n (show decode cX11_liftRefusal 4 = .ok (.iload_n 1, 1) by decide +kernel) rfl) rfl
    (sb_cons (pc2 := 8) (sx_cV (Y' := YX10_findAt) (q := (RX10, TX10, 5)) rfl (show decode cX11_liftRefusal 5 = .ok (.invokevirtual 126, 3) by decide +kernel) rfl rfl (px_w4 wd_522 wd_409 wd_410 wd_375) wd_407 ⟨by decide, by decide, by decide +kernel⟩ (by decide)) rfl
    (sb_cons (pc2 := 10) (sx_astore (show decode cX11_liftRefusal 8 = .ok (.astore 4, 2) by decide +kernel)) rfl
    (sb_cons (pc2 := 12) (sx_aload (show decode cX11_liftRefusal 10 = .ok (.aload 4, 2) by decide +kernel)) rfl
    (sb_cons (pc2 := 15) (sx_ifnull (show decode cX11_liftRefusal 12 = .ok (.ifnull 21, 3) by decide +kernel) (by decide)) rfl
    (sb_cons (pc2 := 16) (sx_aload_n (show decode cX11_liftRefusal 15 = .ok (.aload_n 0, 1) by decide +kernel) rfl) rfl
    (sb_cons (pc2 := 19) (sx_getf (show decode cX11_liftRefusal 16 = .ok (.getfield 19, 3) by decide +kernel) rfl iX11 (by decide) wd_441) rfl
    (sb_cons (pc2 := 20) (sx_iload_n (show decode cX11_liftRefusal 19 = .ok (.iload_n 2, 1) by decide +kernel) rfl) rfl
    (sb_cons (pc2 := 23) (sx_cV (Y' := YX10_hasTank) (q := (RX10, TX10, 5)) rfl (show decode cX11_liftRefusal 20 = .ok (.invokevirtual 145, 3) by decide +kernel) rfl rfl (px_w4 wd_543 wd_415 wd_416 wd_375) wd_413 ⟨by decide, by decide, by decide +kernel⟩ (by decide)) rfl
    (sb_cons (pc2 := 26) (sx_if_eq (show decode cX11_liftRefusal 23 = .ok (.ifCond .eq 10, 3) by decide +kernel) (by decide)) rfl
    (sb_cons (pc2 := 27) (sx_iload_n (show decode cX11_liftRefusal 26 = .ok (.iload_n 3, 1) by decide +kernel) rfl) rfl
    (sb_cons (pc2 := 30) (sx_cS (Y' := YX11_isDay) rfl (show decode cX11_liftRefusal 27 = .ok (.invokestatic 148, 3) by decide +kernel) rfl (px_w3 wd_545 wd_546 wd_487) wd_544 ⟨by decide, by decide, by decide +kernel⟩ (by decide)) rfl
    (sb_cons (pc2 := 33) (sx_if_ne (show decode cX11_liftRefusal 30 = .ok (.ifCond .ne 6, 3) by decide +kernel) (by decide)) rfl sb_nil)))))))))))))))
  (ms_cons
  (sb_cons (pc2 := 35) (sx_bipush (show decode cX11_liftRefusal 33 = .ok (.bipush (-2), 2) by decide +kernel) (by decide)) rfl
    (sb_cons (pc2 := 36) (sx_reti (show decode cX11_liftRefusal 35 = .ok (.ireturn, 1) by decide +kernel) rfl) rfl sb_nil))
  (ms_cons
  (sb_cons (pc2 := 37) (sx_aload_n (show decode cX11_liftRefusal 36 = .ok (.aload_n 0, 1) by decide +kernel) rfl) rfl
    (sb_cons (pc2 := 40) (sx_getf (show decode cX11_liftRefusal 37 = .ok (.getfield 19, 3) by decide +kernel) rfl iX11 (by decide) wd_441) rfl
    (sb_cons (pc2 := 42) (sx_aload (show decode cX11_liftRefusal 40 = .ok (.aload 4, 2) by decide +kernel)) rfl
    (sb_cons (pc2 := 43) (sx_iload_n (show decode cX11_liftRefusal 42 = .ok (.iload_n 2, 1) by decide +kernel) rfl) rfl
    (sb_cons (pc2 := 46) (sx_cV (Y' := YX10_refusal) (q := (RX10, TX10, 5)) rfl (show decode cX11_liftRefusal 43 = .ok (.invokevirtual 151, 3) by decide +kernel) rfl rfl (px_w4 wd_548 wd_549 wd_550 wd_375) wd_547 ⟨by decide, by decide, by decide +kernel⟩ (by decide)) rfl
    (sb_cons (pc2 := 48) (sx_istore (show decode cX11_liftRefusal 46 = .ok (.istore 5, 2) by decide +kernel)) rfl
    (sb_cons (pc2 := 50) (sx_iload (show decode cX11_liftRefusal 48 = .ok (.iload 5, 2) by decide +kernel)) rfl
    (sb_cons (pc2 := 53) (sx_if_eq (show decode cX11_liftRefusal 50 = .ok (.ifCond .eq 6, 3) by decide +kernel) (by decide)) rfl
    (sb_cons (pc2 := 55) (sx_iload (show decode cX11_liftRefusal 53 = .ok (.iload 5, 2) by decide +kernel)) rfl
    (sb_cons (pc2 := 56) (sx_reti (show decode cX11_liftRefusal 55 = .ok (.ireturn, 1) by decide +kernel) rfl) rfl sb_nil))))))))))
  (ms_cons
  (sb_cons (pc2 := 57) (sx_aload_n (show decode cX11_liftRefusal 56 = .ok (.aload_n 0, 1) by decide +kernel) rfl) rfl
    (sb_cons (pc2 := 60) (sx_getf (show decode cX11_liftRefusal 57 = .ok (.getfield 33, 3) by decide +kernel) rfl iX11 (by decide) wd_451) rfl
    (sb_cons (pc2 := 63) (sx_getf (show decode cX11_liftRefusal 60 = .ok (.getfield 155, 3) by decide +kernel) rfl iX5 (by decide) wd_551) rfl
    (sb_cons (pc2 := 65) (sx_aload (show decode cX11_liftRefusal 63 = .ok (.aload 4, 2) by decide +kernel)) rfl
    (sb_cons (pc2 := 66) (sx_iload_n (show decode cX11_liftRefusal 65 = .ok (.iload_n 3, 1) by decide +kernel) rfl) rfl
    (sb_cons (pc2 := 69) (sx_cV (Y' := YX4_firstHolding) (q := (RX4, TX4, 6)) rfl (show decode cX11_liftRefusal 66 = .ok (.invokevirtual 159, 3) by decide +kernel) rfl rfl (px_w4 wd_553 wd_554 wd_555 wd_143) wd_552 ⟨by decide, by decide, by decide +kernel⟩ (by decide)) rfl
    (sb_cons (pc2 := 71) (sx_istore (show decode cX11_liftRefusal 69 = .ok (.istore 6, 2) by decide +kernel)) rfl
    (sb_cons (pc2 := 73) (sx_iload (show decode cX11_liftRefusal 71 = .ok (.iload 6, 2) by decide +kernel)) rfl
    (sb_cons (pc2 := 76) (sx_if_ge (show decode cX11_liftRefusal 73 = .ok (.ifCond .ge 7, 3) by decide +kernel) (by decide)) rfl
    (sb_cons (pc2 := 77) (sx_iconst (show decode cX11_liftRefusal 76 = .ok (.iconst 0, 1) by decide +kernel) (by decide)) rfl
    (sb_cons (pc2 := 80) (px_snd_goto (show decode cX11_liftRefusal 77 = .ok (.goto 7, 3) by decide +kernel) (by decide)) rfl sb_nil)))))))))))
  (ms_cons
  (sb_cons (pc2 := 81) (sx_iconst (show decode cX11_liftRefusal 80 = .ok (.iconst 4, 1) by decide +kernel) (by decide)) rfl
    (sb_cons (pc2 := 83) (sx_iload (show decode cX11_liftRefusal 81 = .ok (.iload 6, 2) by decide +kernel)) rfl
    (sb_cons (pc2 := 84) (sx_iadd (show decode cX11_liftRefusal 83 = .ok (.iadd, 1) by decide +kernel)) rfl sb_nil)))
  (ms_cons
  (sb_cons (pc2 := 85) (sx_reti (show decode cX11_liftRefusal 84 = .ok (.ireturn, 1) by decide +kernel) rfl) rfl sb_nil)
  ms_nil))))))
def kX11_isDay (X : px_X) : px_B := [(0, [], [px_iload 0, px_if1 (fun x => decide (x < 0)) 15, px_iload 0, px_push (.int 1000), px_if2 (fun x y => decide (y ≤ x)) 15, px_push (.int 1), px_goto 16], 15),
  (15, [false], [px_push (.int 0)], 16),
  (16, [false], [px_retz], 17)]
set_option maxRecDepth 100000 in
set_option maxHeartbeats 8000000 in
theorem sX11_isDay (d : Nat) (X : px_X) : px_MS d X YX11_isDay (kX11_isDay X) :=
  (ms_cons
  (sb_cons (pc2 := 1) (sx_iload_n (show decode cX11_isDay 0 = .ok (.iload_n 0, 1) by decide +kernel) rfl) rfl
    (sb_cons (pc2 := 4) (sx_if_lt (show decode cX11_isDay 1 = .ok (.ifCond .lt 14, 3) by decide +kernel) (by decide)) rfl
    (sb_cons (pc2 := 5) (sx_iload_n (show decode cX11_isDay 4 = .ok (.iload_n 0, 1) by decide +kernel) rfl) rfl
    (sb_cons (pc2 := 8) (sx_sipush (show decode cX11_isDay 5 = .ok (.sipush 1000, 3) by decide +kernel) (by decide)) rfl
    (sb_cons (pc2 := 11) (sx_icmp_ge (show decode cX11_isDay 8 = .ok (.if_icmp .ge 7, 3) by decide +kernel) (by decide)) rfl
    (sb_cons (pc2 := 12) (sx_iconst (show decode cX11_isDay 11 = .ok (.iconst 1, 1) by decide +kernel) (by decide)) rfl
    (sb_cons (pc2 := 15) (px_snd_goto (show decode cX11_isDay 12 = .ok (.goto 4, 3) by decide +kernel) (by decide)) rfl sb_nil)))))))
  (ms_cons
  (sb_cons (pc2 := 16) (sx_iconst (show decode cX11_isDay 15 = .ok (.iconst 0, 1) by decide +kernel) (by decide)) rfl sb_nil)
  (ms_cons
  (sb_cons (pc2 := 17) (sx_retz (show decode cX11_isDay 16 = .ok (.ireturn, 1) by decide +kernel) rfl) rfl sb_nil)
  ms_nil)))
def kX11_take (X : px_X) : px_B := [(0, [], [px_aload 0, px_getf 11 1, px_iload 1, px_cV X 111 2 10, px_astore 3, px_aload 3, px_ifnull 20, px_iload 2, px_cS X 137 1, px_if1 (fun x => decide (¬ x = 0)) 23], 20),
  (20, [false, false, false, false], [px_push (.int (-2)), px_reti], 23),
  (23, [false, false, true, true], [px_aload 3, px_getf 2 7, px_push (.int (-1)), px_if2 (fun x y => decide (x = y)) 39, px_iload 2, px_aload 3, px_cV X 27 1 2, px_if2 (fun x y => decide (y ≤ x)) 42], 39),
  (39, [false, false, false, false], [px_push (.int (-3)), px_reti], 42),
  (42, [false, false, false, true], [px_aload 3, px_cV X 29 1 2, px_push (.int 1), px_reti], 48)]
set_option maxRecDepth 100000 in
set_option maxHeartbeats 8000000 in
theorem sX11_take (d : Nat) (X : px_X) : px_MS d X YX11_take (kX11_take X) :=
  (ms_cons
  (sb_cons (pc2 := 1) (sx_aload_n (show decode cX11_take 0 = .ok (.aload_n 0, 1) by decide +kernel) rfl) rfl
    (sb_cons (pc2 := 4) (sx_getf (show decode cX11_take 1 = .ok (.getfield 19, 3) by decide +kernel) rfl iX11 (by decide) wd_441) rfl
    (sb_cons (pc2 := 5) (sx_iload_n (show decode cX11_take 4 = .ok (.iload_n 1, 1) by decide +kernel) rfl) rfl
    (sb_cons (pc2 := 8) (sx_cV (Y' := YX10_findAt) (q := (RX10, TX10, 5)) rfl (show decode cX11_take 5 = .ok (.invokevirtual 126, 3) by decide +kernel) rfl rfl (px_w4 wd_522 wd_409 wd_410 wd_375) wd_407 ⟨by decide, by decide, by decide +kernel⟩ (by decide)) rfl
    (sb_cons (pc2 := 9) (sx_astore_n (show decode cX11_take 8 = .ok (.astore_n 3, 1) by decide +kernel) rfl) rfl
    (sb_cons (pc2 := 10) (sx_aload_n (show decode cX11_take 9 = .ok (.aload_n 3, 1) by decide +kernel) rfl) rfl
    (sb_cons (pc2 := 13) (sx_ifnull (show decode cX11_take 10 = .ok (.ifnull 10, 3) by decide +kernel) (by decide)) rfl
    (sb_cons (pc2 := 14) (sx_iload_n (show decode cX11_take 13 = .ok (.iload_n 2, 1) by decide +kernel) rfl) rfl
    (sb_cons (pc2 := 17) (sx_cS (Y' := YX11_isDay) rfl (show decode cX11_take 14 = .ok (.invokestatic 148, 3) by decide +kernel) rfl (px_w3 wd_545 wd_546 wd_487) wd_544 ⟨by decide, by decide, by decide +kernel⟩ (by decide)) rfl
    (sb_cons (pc2 := 20) (sx_if_ne (show decode cX11_take 17 = .ok (.ifCond .ne 6, 3) by decide +kernel) (by decide)) rfl sb_nil))))))))))
  (ms_cons
  (sb_cons (pc2 := 22) (sx_bipush (show decode cX11_take 20 = .ok (.bipush (-2), 2) by decide +kernel) (by decide)) rfl
    (sb_cons (pc2 := 23) (sx_reti (show decode cX11_take 22 = .ok (.ireturn, 1) by decide +kernel) rfl) rfl sb_nil))
  (ms_cons
  (sb_cons (pc2 := 24) (sx_aload_n (show decode cX11_take 23 = .ok (.aload_n 3, 1) by decide +kernel) rfl) rfl
    (sb_cons (pc2 := 27) (sx_getf (show decode cX11_take 24 = .ok (.getfield 164, 3) by decide +kernel) rfl iX2 (by decide) wd_556) rfl
    (sb_cons (pc2 := 28) (sx_iconst (show decode cX11_take 27 = .ok (.iconst (-1), 1) by decide +kernel) (by decide)) rfl
    (sb_cons (pc2 := 31) (sx_icmp_eq (show decode cX11_take 28 = .ok (.if_icmp .eq 11, 3) by decide +kernel) (by decide)) rfl
    (sb_cons (pc2 := 32) (sx_iload_n (show decode cX11_take 31 = .ok (.iload_n 2, 1) by decide +kernel) rfl) rfl
    (sb_cons (pc2 := 33) (sx_aload_n (show decode cX11_take 32 = .ok (.aload_n 3, 1) by decide +kernel) rfl) rfl
    (sb_cons (pc2 := 36) (sx_cV (Y' := YX2_readyDay) (q := (RX2, TX2, 9)) rfl (show decode cX11_take 33 = .ok (.invokevirtual 167, 3) by decide +kernel) rfl rfl (px_w4 wd_557 wd_98 wd_99 wd_100) wd_96 ⟨by decide, by decide, by decide +kernel⟩ (by decide)) rfl
    (sb_cons (pc2 := 39) (sx_icmp_ge (show decode cX11_take 36 = .ok (.if_icmp .ge 6, 3) by decide +kernel) (by decide)) rfl sb_nil))))))))
  (ms_cons
  (sb_cons (pc2 := 41) (sx_bipush (show decode cX11_take 39 = .ok (.bipush (-3), 2) by decide +kernel) (by decide)) rfl
    (sb_cons (pc2 := 42) (sx_reti (show decode cX11_take 41 = .ok (.ireturn, 1) by decide +kernel) rfl) rfl sb_nil))
  (ms_cons
  (sb_cons (pc2 := 43) (sx_aload_n (show decode cX11_take 42 = .ok (.aload_n 3, 1) by decide +kernel) rfl) rfl
    (sb_cons (pc2 := 46) (sx_cV (Y' := YX2_goOut) (q := (RX2, TX2, 9)) rfl (show decode cX11_take 43 = .ok (.invokevirtual 171, 3) by decide +kernel) rfl rfl (px_w4 wd_559 wd_560 wd_561 wd_100) wd_558 ⟨by decide, by decide, by decide +kernel⟩ (by decide)) rfl
    (sb_cons (pc2 := 47) (sx_iconst (show decode cX11_take 46 = .ok (.iconst 1, 1) by decide +kernel) (by decide)) rfl
    (sb_cons (pc2 := 48) (sx_reti (show decode cX11_take 47 = .ok (.ireturn, 1) by decide +kernel) rfl) rfl sb_nil))))
  ms_nil)))))
def kX11_diver (X : px_X) : px_B := [(0, [], [px_aload 0, px_getf 11 2, px_cV X 5 1 1, px_reti], 8)]
set_option maxRecDepth 100000 in
set_option maxHeartbeats 8000000 in
theorem sX11_diver (d : Nat) (X : px_X) : px_MS d X YX11_diver (kX11_diver X) :=
  (ms_cons
  (sb_cons (pc2 := 1) (sx_aload_n (show decode cX11_diver 0 = .ok (.aload_n 0, 1) by decide +kernel) rfl) rfl
    (sb_cons (pc2 := 4) (sx_getf (show decode cX11_diver 1 = .ok (.getfield 26, 3) by decide +kernel) rfl iX11 (by decide) wd_446) rfl
    (sb_cons (pc2 := 7) (sx_cV (Y' := YX1_addDiver) (q := (RX1, TX1, 7)) rfl (show decode cX11_diver 4 = .ok (.invokevirtual 174, 3) by decide +kernel) rfl rfl (px_w4 wd_563 wd_564 wd_565 wd_27) wd_562 ⟨by decide, by decide, by decide +kernel⟩ (by decide)) rfl
    (sb_cons (pc2 := 8) (sx_reti (show decode cX11_diver 7 = .ok (.ireturn, 1) by decide +kernel) rfl) rfl sb_nil))))
  ms_nil)
def kX11_row (X : px_X) : px_B := [(0, [], [px_aload 0, px_getf 11 2, px_iload 1, px_iload 2, px_iload 3, px_cV X 7 4 1, px_reti], 11)]
set_option maxRecDepth 100000 in
set_option maxHeartbeats 8000000 in
theorem sX11_row (d : Nat) (X : px_X) : px_MS d X YX11_row (kX11_row X) :=
  (ms_cons
  (sb_cons (pc2 := 1) (sx_aload_n (show decode cX11_row 0 = .ok (.aload_n 0, 1) by decide +kernel) rfl) rfl
    (sb_cons (pc2 := 4) (sx_getf (show decode cX11_row 1 = .ok (.getfield 26, 3) by decide +kernel) rfl iX11 (by decide) wd_446) rfl
    (sb_cons (pc2 := 5) (sx_iload_n (show decode cX11_row 4 = .ok (.iload_n 1, 1) by decide +kernel) rfl) rfl
    (sb_cons (pc2 := 6) (sx_iload_n (show decode cX11_row 5 = .ok (.iload_n 2, 1) by decide +kernel) rfl) rfl
    (sb_cons (pc2 := 7) (sx_iload_n (show decode cX11_row 6 = .ok (.iload_n 3, 1) by decide +kernel) rfl) rfl
    (sb_cons (pc2 := 10) (sx_cV (Y' := YX1_putRow) (q := (RX1, TX1, 7)) rfl (show decode cX11_row 7 = .ok (.invokevirtual 177, 3) by decide +kernel) rfl rfl (px_w4 wd_567 wd_568 wd_569 wd_27) wd_566 ⟨by decide, by decide, by decide +kernel⟩ (by decide)) rfl
    (sb_cons (pc2 := 11) (sx_reti (show decode cX11_row 10 = .ok (.ireturn, 1) by decide +kernel) rfl) rfl sb_nil)))))))
  ms_nil)
def kX11_dive (X : px_X) : px_B := [(0, [], [px_aload 0, px_getf 11 2, px_iload 1, px_iload 2, px_iload 3, px_iload 4, px_iload 5, px_cV X 11 6 1, px_if1 (fun x => decide (¬ x = 0)) 20, px_push (.int (-2)), px_reti], 20),
  (20, [true, true, true, true, true, true, false], [px_aload 0, px_getf 11 2, px_iload 1, px_iload 2, px_iload 3, px_iload 4, px_iload 5, px_cV X 12 6 1, px_istore 6, px_iload 6, px_if1 (fun x => decide (x = 0)) 47, px_push (.int (-20)), px_iload 6, (px_i2 fun x y => x - y), px_reti], 47),
  (47, [true, true, true, true, true, true, false], [px_aload 0, px_getf 11 2, px_iload 1, px_iload 2, px_iload 3, px_iload 4, px_iload 5, px_cV X 17 6 1, px_reti], 62)]
set_option maxRecDepth 100000 in
set_option maxHeartbeats 8000000 in
theorem sX11_dive (d : Nat) (X : px_X) : px_MS d X YX11_dive (kX11_dive X) :=
  (ms_cons
  (sb_cons (pc2 := 1) (sx_aload_n (show decode cX11_dive 0 = .ok (.aload_n 0, 1) by decide +kernel) rfl) rfl
    (sb_cons (pc2 := 4) (sx_getf (show decode cX11_dive 1 = .ok (.getfield 26, 3) by decide +kernel) rfl iX11 (by decide) wd_446) rfl
    (sb_cons (pc2 := 5) (sx_iload_n (show decode cX11_dive 4 = .ok (.iload_n 1, 1) by decide +kernel) rfl) rfl
    (sb_cons (pc2 := 6) (sx_iload_n (show decode cX11_dive 5 = .ok (.iload_n 2, 1) by decide +kernel) rfl) rfl
    (sb_cons (pc2 := 7) (sx_iload_n (show decode cX11_dive 6 = .ok (.iload_n 3, 1) by decide +kernel) rfl) rfl
    (sb_cons (pc2 := 9) (sx_iload (show decode cX11_dive 7 = .ok (.iload 4, 2) by decide +kernel)) rfl
    (sb_cons (pc2 := 11) (sx_iload (show decode cX11_dive 9 = .ok (.iload 5, 2) by decide +kernel)) rfl
    (sb_cons (pc2 := 14) (sx_cV (Y' := YX1_canBeAsked) (q := (RX1, TX1, 7)) rfl (show decode cX11_dive 11 = .ok (.invokevirtual 180, 3) by decide +kernel) rfl rfl (px_w4 wd_571 wd_572 wd_573 wd_27) wd_570 ⟨by decide, by decide, by decide +kernel⟩ (by decide)) rfl
    (sb_cons (pc2 := 17) (sx_if_ne (show decode cX11_dive 14 = .ok (.ifCond .ne 6, 3) by decide +kernel) (by decide)) rfl
    (sb_cons (pc2 := 19) (sx_bipush (show decode cX11_dive 17 = .ok (.bipush (-2), 2) by decide +kernel) (by decide)) rfl
    (sb_cons (pc2 := 20) (sx_reti (show decode cX11_dive 19 = .ok (.ireturn, 1) by decide +kernel) rfl) rfl sb_nil)))))))))))
  (ms_cons
  (sb_cons (pc2 := 21) (sx_aload_n (show decode cX11_dive 20 = .ok (.aload_n 0, 1) by decide +kernel) rfl) rfl
    (sb_cons (pc2 := 24) (sx_getf (show decode cX11_dive 21 = .ok (.getfield 26, 3) by decide +kernel) rfl iX11 (by decide) wd_446) rfl
    (sb_cons (pc2 := 25) (sx_iload_n (show decode cX11_dive 24 = .ok (.iload_n 1, 1) by decide +kernel) rfl) rfl
    (sb_cons (pc2 := 26) (sx_iload_n (show decode cX11_dive 25 = .ok (.iload_n 2, 1) by decide +kernel) rfl) rfl
    (sb_cons (pc2 := 27) (sx_iload_n (show decode cX11_dive 26 = .ok (.iload_n 3, 1) by decide +kernel) rfl) rfl
    (sb_cons (pc2 := 29) (sx_iload (show decode cX11_dive 27 = .ok (.iload 4, 2) by decide +kernel)) rfl
    (sb_cons (pc2 := 31) (sx_iload (show decode cX11_dive 29 = .ok (.iload 5, 2) by decide +kernel)) rfl
    (sb_cons (pc2 := 34) (sx_cV (Y' := YX1_refusal) (q := (RX1, TX1, 7)) rfl (show decode cX11_dive 31 = .ok (.invokevirtual 184, 3) by decide +kernel) rfl rfl (px_w4 wd_575 wd_576 wd_577 wd_27) wd_574 ⟨by decide, by decide, by decide +kernel⟩ (by decide)) rfl
    (sb_cons (pc2 := 36) (sx_istore (show decode cX11_dive 34 = .ok (.istore 6, 2) by decide +kernel)) rfl
    (sb_cons (pc2 := 38) (sx_iload (show decode cX11_dive 36 = .ok (.iload 6, 2) by decide +kernel)) rfl
    (sb_cons (pc2 := 41) (sx_if_eq (show decode cX11_dive 38 = .ok (.ifCond .eq 9, 3) by decide +kernel) (by decide)) rfl
    (sb_cons (pc2 := 43) (sx_bipush (show decode cX11_dive 41 = .ok (.bipush (-20), 2) by decide +kernel) (by decide)) rfl
    (sb_cons (pc2 := 45) (sx_iload (show decode cX11_dive 43 = .ok (.iload 6, 2) by decide +kernel)) rfl
    (sb_cons (pc2 := 46) (sx_isub (show decode cX11_dive 45 = .ok (.isub, 1) by decide +kernel)) rfl
    (sb_cons (pc2 := 47) (sx_reti (show decode cX11_dive 46 = .ok (.ireturn, 1) by decide +kernel) rfl) rfl sb_nil)))))))))))))))
  (ms_cons
  (sb_cons (pc2 := 48) (sx_aload_n (show decode cX11_dive 47 = .ok (.aload_n 0, 1) by decide +kernel) rfl) rfl
    (sb_cons (pc2 := 51) (sx_getf (show decode cX11_dive 48 = .ok (.getfield 26, 3) by decide +kernel) rfl iX11 (by decide) wd_446) rfl
    (sb_cons (pc2 := 52) (sx_iload_n (show decode cX11_dive 51 = .ok (.iload_n 1, 1) by decide +kernel) rfl) rfl
    (sb_cons (pc2 := 53) (sx_iload_n (show decode cX11_dive 52 = .ok (.iload_n 2, 1) by decide +kernel) rfl) rfl
    (sb_cons (pc2 := 54) (sx_iload_n (show decode cX11_dive 53 = .ok (.iload_n 3, 1) by decide +kernel) rfl) rfl
    (sb_cons (pc2 := 56) (sx_iload (show decode cX11_dive 54 = .ok (.iload 4, 2) by decide +kernel)) rfl
    (sb_cons (pc2 := 58) (sx_iload (show decode cX11_dive 56 = .ok (.iload 5, 2) by decide +kernel)) rfl
    (sb_cons (pc2 := 61) (sx_cV (Y' := YX1_addDive) (q := (RX1, TX1, 7)) rfl (show decode cX11_dive 58 = .ok (.invokevirtual 187, 3) by decide +kernel) rfl rfl (px_w4 wd_579 wd_580 wd_581 wd_27) wd_578 ⟨by decide, by decide, by decide +kernel⟩ (by decide)) rfl
    (sb_cons (pc2 := 62) (sx_reti (show decode cX11_dive 61 = .ok (.ireturn, 1) by decide +kernel) rfl) rfl sb_nil)))))))))
  ms_nil)))
def kX11_cancel (X : px_X) : px_B := [(0, [], [px_aload 0, px_getf 11 2, px_cV X 18 1 1, px_reti], 8)]
set_option maxRecDepth 100000 in
set_option maxHeartbeats 8000000 in
theorem sX11_cancel (d : Nat) (X : px_X) : px_MS d X YX11_cancel (kX11_cancel X) :=
  (ms_cons
  (sb_cons (pc2 := 1) (sx_aload_n (show decode cX11_cancel 0 = .ok (.aload_n 0, 1) by decide +kernel) rfl) rfl
    (sb_cons (pc2 := 4) (sx_getf (show decode cX11_cancel 1 = .ok (.getfield 26, 3) by decide +kernel) rfl iX11 (by decide) wd_446) rfl
    (sb_cons (pc2 := 7) (sx_cV (Y' := YX1_dropLast) (q := (RX1, TX1, 7)) rfl (show decode cX11_cancel 4 = .ok (.invokevirtual 190, 3) by decide +kernel) rfl rfl (px_w4 wd_583 wd_584 wd_585 wd_27) wd_582 ⟨by decide, by decide, by decide +kernel⟩ (by decide)) rfl
    (sb_cons (pc2 := 8) (sx_reti (show decode cX11_cancel 7 = .ok (.ireturn, 1) by decide +kernel) rfl) rfl sb_nil))))
  ms_nil)
def kX11_under (X : px_X) : px_B := [(0, [], [px_aload 0, px_getf 11 2, px_iload 1, px_cV X 6 2 1, px_if1 (fun x => decide (x = 0)) 30, px_iload 2, px_cS X 137 1, px_if1 (fun x => decide (x = 0)) 30, px_aload 0, px_getf 11 2, px_iload 1, px_iload 2, px_cV X 16 3 1, px_goto 32], 30),
  (30, [false, false, false], [px_push (.int (-2))], 32),
  (32, [false, false, false], [px_reti], 33)]
set_option maxRecDepth 100000 in
set_option maxHeartbeats 8000000 in
theorem sX11_under (d : Nat) (X : px_X) : px_MS d X YX11_under (kX11_under X) :=
  (ms_cons
  (sb_cons (pc2 := 1) (sx_aload_n (show decode cX11_under 0 = .ok (.aload_n 0, 1) by decide +kernel) rfl) rfl
    (sb_cons (pc2 := 4) (sx_getf (show decode cX11_under 1 = .ok (.getfield 26, 3) by decide +kernel) rfl iX11 (by decide) wd_446) rfl
    (sb_cons (pc2 := 5) (sx_iload_n (show decode cX11_under 4 = .ok (.iload_n 1, 1) by decide +kernel) rfl) rfl
    (sb_cons (pc2 := 8) (sx_cV (Y' := YX1_hasDiver) (q := (RX1, TX1, 7)) rfl (show decode cX11_under 5 = .ok (.invokevirtual 193, 3) by decide +kernel) rfl rfl (px_w4 wd_586 wd_34 wd_35 wd_27) wd_32 ⟨by decide, by decide, by decide +kernel⟩ (by decide)) rfl
    (sb_cons (pc2 := 11) (sx_if_eq (show decode cX11_under 8 = .ok (.ifCond .eq 22, 3) by decide +kernel) (by decide)) rfl
    (sb_cons (pc2 := 12) (sx_iload_n (show decode cX11_under 11 = .ok (.iload_n 2, 1) by decide +kernel) rfl) rfl
    (sb_cons (pc2 := 15) (sx_cS (Y' := YX11_isDay) rfl (show decode cX11_under 12 = .ok (.invokestatic 148, 3) by decide +kernel) rfl (px_w3 wd_545 wd_546 wd_487) wd_544 ⟨by decide, by decide, by decide +kernel⟩ (by decide)) rfl
    (sb_cons (pc2 := 18) (sx_if_eq (show decode cX11_under 15 = .ok (.ifCond .eq 15, 3) by decide +kernel) (by decide)) rfl
    (sb_cons (pc2 := 19) (sx_aload_n (show decode cX11_under 18 = .ok (.aload_n 0, 1) by decide +kernel) rfl) rfl
    (sb_cons (pc2 := 22) (sx_getf (show decode cX11_under 19 = .ok (.getfield 26, 3) by decide +kernel) rfl iX11 (by decide) wd_446) rfl
    (sb_cons (pc2 := 23) (sx_iload_n (show decode cX11_under 22 = .ok (.iload_n 1, 1) by decide +kernel) rfl) rfl
    (sb_cons (pc2 := 24) (sx_iload_n (show decode cX11_under 23 = .ok (.iload_n 2, 1) by decide +kernel) rfl) rfl
    (sb_cons (pc2 := 27) (sx_cV (Y' := YX1_minutesOn) (q := (RX1, TX1, 7)) rfl (show decode cX11_under 24 = .ok (.invokevirtual 196, 3) by decide +kernel) rfl rfl (px_w4 wd_587 wd_63 wd_64 wd_27) wd_61 ⟨by decide, by decide, by decide +kernel⟩ (by decide)) rfl
    (sb_cons (pc2 := 30) (px_snd_goto (show decode cX11_under 27 = .ok (.goto 5, 3) by decide +kernel) (by decide)) rfl sb_nil))))))))))))))
  (ms_cons
  (sb_cons (pc2 := 32) (sx_bipush (show decode cX11_under 30 = .ok (.bipush (-2), 2) by decide +kernel) (by decide)) rfl sb_nil)
  (ms_cons
  (sb_cons (pc2 := 33) (sx_reti (show decode cX11_under 32 = .ok (.ireturn, 1) by decide +kernel) rfl) rfl sb_nil)
  ms_nil)))
def kX11_soonest (X : px_X) : px_B := [(0, [], [px_aload 0, px_getf 11 2, px_iload 1, px_iload 2, px_iload 3, px_iload 4, px_iload 5, px_cV X 11 6 1, px_if1 (fun x => decide (¬ x = 0)) 20, px_push (.int (-2)), px_reti], 20),
  (20, [true, true, true, true, true, true], [px_aload 0, px_getf 11 2, px_iload 1, px_iload 2, px_iload 3, px_iload 4, px_iload 5, px_cV X 19 6 1, px_reti], 35)]
set_option maxRecDepth 100000 in
set_option maxHeartbeats 8000000 in
theorem sX11_soonest (d : Nat) (X : px_X) : px_MS d X YX11_soonest (kX11_soonest X) :=
  (ms_cons
  (sb_cons (pc2 := 1) (sx_aload_n (show decode cX11_soonest 0 = .ok (.aload_n 0, 1) by decide +kernel) rfl) rfl
    (sb_cons (pc2 := 4) (sx_getf (show decode cX11_soonest 1 = .ok (.getfield 26, 3) by decide +kernel) rfl iX11 (by decide) wd_446) rfl
    (sb_cons (pc2 := 5) (sx_iload_n (show decode cX11_soonest 4 = .ok (.iload_n 1, 1) by decide +kernel) rfl) rfl
    (sb_cons (pc2 := 6) (sx_iload_n (show decode cX11_soonest 5 = .ok (.iload_n 2, 1) by decide +kernel) rfl) rfl
    (sb_cons (pc2 := 7) (sx_iload_n (show decode cX11_soonest 6 = .ok (.iload_n 3, 1) by decide +kernel) rfl) rfl
    (sb_cons (pc2 := 9) (sx_iload (show decode cX11_soonest 7 = .ok (.iload 4, 2) by decide +kernel)) rfl
    (sb_cons (pc2 := 11) (sx_iload (show decode cX11_soonest 9 = .ok (.iload 5, 2) by decide +kernel)) rfl
    (sb_cons (pc2 := 14) (sx_cV (Y' := YX1_canBeAsked) (q := (RX1, TX1, 7)) rfl (show decode cX11_soonest 11 = .ok (.invokevirtual 180, 3) by decide +kernel) rfl rfl (px_w4 wd_571 wd_572 wd_573 wd_27) wd_570 ⟨by decide, by decide, by decide +kernel⟩ (by decide)) rfl
    (sb_cons (pc2 := 17) (sx_if_ne (show decode cX11_soonest 14 = .ok (.ifCond .ne 6, 3) by decide +kernel) (by decide)) rfl
    (sb_cons (pc2 := 19) (sx_bipush (show decode cX11_soonest 17 = .ok (.bipush (-2), 2) by decide +kernel) (by decide)) rfl
    (sb_cons (pc2 := 20) (sx_reti (show decode cX11_soonest 19 = .ok (.ireturn, 1) by decide +kernel) rfl) rfl sb_nil)))))))))))
  (ms_cons
  (sb_cons (pc2 := 21) (sx_aload_n (show decode cX11_soonest 20 = .ok (.aload_n 0, 1) by decide +kernel) rfl) rfl
    (sb_cons (pc2 := 24) (sx_getf (show decode cX11_soonest 21 = .ok (.getfield 26, 3) by decide +kernel) rfl iX11 (by decide) wd_446) rfl
    (sb_cons (pc2 := 25) (sx_iload_n (show decode cX11_soonest 24 = .ok (.iload_n 1, 1) by decide +kernel) rfl) rfl
    (sb_cons (pc2 := 26) (sx_iload_n (show decode cX11_soonest 25 = .ok (.iload_n 2, 1) by decide +kernel) rfl) rfl
    (sb_cons (pc2 := 27) (sx_iload_n (show decode cX11_soonest 26 = .ok (.iload_n 3, 1) by decide +kernel) rfl) rfl
    (sb_cons (pc2 := 29) (sx_iload (show decode cX11_soonest 27 = .ok (.iload 4, 2) by decide +kernel)) rfl
    (sb_cons (pc2 := 31) (sx_iload (show decode cX11_soonest 29 = .ok (.iload 5, 2) by decide +kernel)) rfl
    (sb_cons (pc2 := 34) (sx_cV (Y' := YX1_firstMoment) (q := (RX1, TX1, 7)) rfl (show decode cX11_soonest 31 = .ok (.invokevirtual 199, 3) by decide +kernel) rfl rfl (px_w4 wd_589 wd_590 wd_591 wd_27) wd_588 ⟨by decide, by decide, by decide +kernel⟩ (by decide)) rfl
    (sb_cons (pc2 := 35) (sx_reti (show decode cX11_soonest 34 = .ok (.ireturn, 1) by decide +kernel) rfl) rfl sb_nil)))))))))
  ms_nil))
def kX11_feed (X : px_X) : px_B := [(0, [], [px_aload 0, px_getf 11 3, px_iload 1, px_lload 2, px_cV X 49 3 5, px_reti], 10)]
set_option maxRecDepth 100000 in
set_option maxHeartbeats 8000000 in
theorem sX11_feed (d : Nat) (X : px_X) : px_MS d X YX11_feed (kX11_feed X) :=
  (ms_cons
  (sb_cons (pc2 := 1) (sx_aload_n (show decode cX11_feed 0 = .ok (.aload_n 0, 1) by decide +kernel) rfl) rfl
    (sb_cons (pc2 := 4) (sx_getf (show decode cX11_feed 1 = .ok (.getfield 33, 3) by decide +kernel) rfl iX11 (by decide) wd_451) rfl
    (sb_cons (pc2 := 5) (sx_iload_n (show decode cX11_feed 4 = .ok (.iload_n 1, 1) by decide +kernel) rfl) rfl
    (sb_cons (pc2 := 6) (sx_lload_n (show decode cX11_feed 5 = .ok (.lload_n 2, 1) by decide +kernel) rfl) rfl
    (sb_cons (pc2 := 9) (sx_cV (Y' := YX5_append) (q := (RX5, TX5, 8)) rfl (show decode cX11_feed 6 = .ok (.invokevirtual 202, 3) by decide +kernel) rfl rfl (px_w4 wd_593 wd_594 wd_595 wd_189) wd_592 ⟨by decide, by decide, by decide +kernel⟩ (by decide)) rfl
    (sb_cons (pc2 := 10) (sx_reti (show decode cX11_feed 9 = .ok (.ireturn, 1) by decide +kernel) rfl) rfl sb_nil))))))
  ms_nil)
def kX11_rule (X : px_X) : px_B := [(0, [], [px_aload 0, px_getf 11 3, px_cV X 50 1 5, px_reti], 8)]
set_option maxRecDepth 100000 in
set_option maxHeartbeats 8000000 in
theorem sX11_rule (d : Nat) (X : px_X) : px_MS d X YX11_rule (kX11_rule X) :=
  (ms_cons
  (sb_cons (pc2 := 1) (sx_aload_n (show decode cX11_rule 0 = .ok (.aload_n 0, 1) by decide +kernel) rfl) rfl
    (sb_cons (pc2 := 4) (sx_getf (show decode cX11_rule 1 = .ok (.getfield 33, 3) by decide +kernel) rfl iX11 (by decide) wd_451) rfl
    (sb_cons (pc2 := 7) (sx_cV (Y' := YX5_readAll) (q := (RX5, TX5, 8)) rfl (show decode cX11_rule 4 = .ok (.invokevirtual 206, 3) by decide +kernel) rfl rfl (px_w4 wd_597 wd_598 wd_599 wd_189) wd_596 ⟨by decide, by decide, by decide +kernel⟩ (by decide)) rfl
    (sb_cons (pc2 := 8) (sx_reti (show decode cX11_rule 7 = .ok (.ireturn, 1) by decide +kernel) rfl) rfl sb_nil))))
  ms_nil)
def kX11_worth (X : px_X) : px_B := [(0, [], [px_aload 0, px_getf 11 1, px_iload 1, px_cV X 111 2 10, px_astore 4, px_aload 4, px_ifnull 40, px_iload 2, px_cS X 137 1, px_if1 (fun x => decide (x = 0)) 40, px_iload 3, px_if1 (fun x => decide (x < 0)) 40, px_iload 3, px_aload 0, px_getf 11 3, px_getf 5 0, px_getf 4 0, px_if2 (fun x y => decide (x < y)) 44], 40),
  (40, [false, false, false, false, false], [px_push (.long (-4611686018427387904)), px_retl], 44),
  (44, [true, false, true, true, true], [px_aload 0, px_getf 11 3, px_getf 5 0, px_iload 3, px_aload 4, px_iload 2, px_cV X 43 4 4, px_i2l, px_retl], 60)]
set_option maxRecDepth 100000 in
set_option maxHeartbeats 8000000 in
theorem sX11_worth (d : Nat) (X : px_X) : px_MS d X YX11_worth (kX11_worth X) :=
  (ms_cons
  (sb_cons (pc2 := 1) (sx_aload_n (show decode cX11_worth 0 = .ok (.aload_n 0, 1) by decide +kernel) rfl) rfl
    (sb_cons (pc2 := 4) (sx_getf (show decode cX11_worth 1 = .ok (.getfield 19, 3) by decide +kernel) rfl iX11 (by decide) wd_441) rfl
    (sb_cons (pc2 := 5) (sx_iload_n (show decode cX11_worth 4 = .ok (.iload_n 1, 1) by decide +kernel) rfl) rfl
    (sb_cons (pc2 := 8) (sx_cV (Y' := YX10_findAt) (q := (RX10, TX10, 5)) rfl (show decode cX11_worth 5 = .ok (.invokevirtual 126, 3) by decide +kernel) rfl rfl (px_w4 wd_522 wd_409 wd_410 wd_375) wd_407 ⟨by decide, by decide, by decide +kernel⟩ (by decide)) rfl
    (sb_cons (pc2 := 10) (sx_astore (show decode cX11_worth 8 = .ok (.astore 4, 2) by decide +kernel)) rfl
    (sb_cons (pc2 := 12) (sx_aload (show decode cX11_worth 10 = .ok (.aload 4, 2) by decide +kernel)) rfl
    (sb_cons (pc2 := 15) (sx_ifnull (show decode cX11_worth 12 = .ok (.ifnull 28, 3) by decide +kernel) (by decide)) rfl
    (sb_cons (pc2 := 16) (sx_iload_n (show decode cX11_worth 15 = .ok (.iload_n 2, 1) by decide +kernel) rfl) rfl
    (sb_cons (pc2 := 19) (sx_cS (Y' := YX11_isDay) rfl (show decode cX11_worth 16 = .ok (.invokestatic 148, 3) by decide +kernel) rfl (px_w3 wd_545 wd_546 wd_487) wd_544 ⟨by decide, by decide, by decide +kernel⟩ (by decide)) rfl
    (sb_cons (pc2 := 22) (sx_if_eq (show decode cX11_worth 19 = .ok (.ifCond .eq 21, 3) by decide +kernel) (by decide)) rfl
    (sb_cons (pc2 := 23) (sx_iload_n (show decode cX11_worth 22 = .ok (.iload_n 3, 1) by decide +kernel) rfl) rfl
    (sb_cons (pc2 := 26) (sx_if_lt (show decode cX11_worth 23 = .ok (.ifCond .lt 17, 3) by decide +kernel) (by decide)) rfl
    (sb_cons (pc2 := 27) (sx_iload_n (show decode cX11_worth 26 = .ok (.iload_n 3, 1) by decide +kernel) rfl) rfl
    (sb_cons (pc2 := 28) (sx_aload_n (show decode cX11_worth 27 = .ok (.aload_n 0, 1) by decide +kernel) rfl) rfl
    (sb_cons (pc2 := 31) (sx_getf (show decode cX11_worth 28 = .ok (.getfield 33, 3) by decide +kernel) rfl iX11 (by decide) wd_451) rfl
    (sb_cons (pc2 := 34) (sx_getf (show decode cX11_worth 31 = .ok (.getfield 155, 3) by decide +kernel) rfl iX5 (by decide) wd_551) rfl
    (sb_cons (pc2 := 37) (sx_getf (show decode cX11_worth 34 = .ok (.getfield 209, 3) by decide +kernel) rfl iX4 (by decide) wd_600) rfl
    (sb_cons (pc2 := 40) (sx_icmp_lt (show decode cX11_worth 37 = .ok (.if_icmp .lt 7, 3) by decide +kernel) (by decide)) rfl sb_nil))))))))))))))))))
  (ms_cons
  (sb_cons (pc2 := 43) (sx_ldc2 (show decode cX11_worth 40 = .ok (.ldc2_w 212, 3) by decide +kernel) wd_601) rfl
    (sb_cons (pc2 := 44) (sx_retl (show decode cX11_worth 43 = .ok (.lreturn, 1) by decide +kernel) rfl) rfl sb_nil))
  (ms_cons
  (sb_cons (pc2 := 45) (sx_aload_n (show decode cX11_worth 44 = .ok (.aload_n 0, 1) by decide +kernel) rfl) rfl
    (sb_cons (pc2 := 48) (sx_getf (show decode cX11_worth 45 = .ok (.getfield 33, 3) by decide +kernel) rfl iX11 (by decide) wd_451) rfl
    (sb_cons (pc2 := 51) (sx_getf (show decode cX11_worth 48 = .ok (.getfield 155, 3) by decide +kernel) rfl iX5 (by decide) wd_551) rfl
    (sb_cons (pc2 := 52) (sx_iload_n (show decode cX11_worth 51 = .ok (.iload_n 3, 1) by decide +kernel) rfl) rfl
    (sb_cons (pc2 := 54) (sx_aload (show decode cX11_worth 52 = .ok (.aload 4, 2) by decide +kernel)) rfl
    (sb_cons (pc2 := 55) (sx_iload_n (show decode cX11_worth 54 = .ok (.iload_n 2, 1) by decide +kernel) rfl) rfl
    (sb_cons (pc2 := 58) (sx_cV (Y' := YX4_valueOf) (q := (RX4, TX4, 6)) rfl (show decode cX11_worth 55 = .ok (.invokevirtual 214, 3) by decide +kernel) rfl rfl (px_w4 wd_602 wd_141 wd_142 wd_143) wd_139 ⟨by decide, by decide, by decide +kernel⟩ (by decide)) rfl
    (sb_cons (pc2 := 59) (sx_i2l (show decode cX11_worth 58 = .ok (.i2l, 1) by decide +kernel)) rfl
    (sb_cons (pc2 := 60) (sx_retl (show decode cX11_worth 59 = .ok (.lreturn, 1) by decide +kernel) rfl) rfl sb_nil)))))))))
  ms_nil)))
def kX11_bond (X : px_X) : px_B := [(0, [], [px_aload 0, px_getf 11 1, px_iload 1, px_cV X 112 2 10, px_astore 4, px_aload 0, px_getf 11 1, px_iload 2, px_cV X 112 2 10, px_astore 5, px_aload 4, px_ifnull 44, px_aload 5, px_ifnull 44, px_iload 1, px_iload 2, px_if2 (fun x y => decide (x = y)) 44, px_iload 3, px_if1 (fun x => decide (x < 0)) 44, px_iload 3, px_push (.int 1), px_if2 (fun x y => decide (x ≤ y)) 48], 44),
  (44, [false, false, false, false, false, false], [px_push (.int (-1000)), px_reti], 48),
  (48, [true, false, false, true, true, true], [px_aload 0, px_getf 11 4, px_aload 4, px_aload 5, px_cV X 99 3 8, px_iload 3, px_if1 (fun x => decide (¬ x = 0)) 73, px_aload 0, px_getf 11 4, px_getf 8 1, px_goto 80], 73),
  (73, [true, false, false, false, false, false], [px_aload 0, px_getf 11 4, px_getf 8 2], 80),
  (80, [false, false, false, false, false, false], [px_reti], 81)]
set_option maxRecDepth 100000 in
set_option maxHeartbeats 8000000 in
theorem sX11_bond (d : Nat) (X : px_X) : px_MS d X YX11_bond (kX11_bond X) :=
  (ms_cons
  (sb_cons (pc2 := 1) (sx_aload_n (show decode cX11_bond 0 = .ok (.aload_n 0, 1) by decide +kernel) rfl) rfl
    (sb_cons (pc2 := 4) (sx_getf (show decode cX11_bond 1 = .ok (.getfield 19, 3) by decide +kernel) rfl iX11 (by decide) wd_441) rfl
    (sb_cons (pc2 := 5) (sx_iload_n (show decode cX11_bond 4 = .ok (.iload_n 1, 1) by decide +kernel) rfl) rfl
    (sb_cons (pc2 := 8) (sx_cV (Y' := YX10_timberAt) (q := (RX10, TX10, 5)) rfl (show decode cX11_bond 5 = .ok (.invokevirtual 117, 3) by decide +kernel) rfl rfl (px_w4 wd_517 wd_373 wd_374 wd_375) wd_371 ⟨by decide, by decide, by decide +kernel⟩ (by decide)) rfl
    (sb_cons (pc2 := 10) (sx_astore (show decode cX11_bond 8 = .ok (.astore 4, 2) by decide +kernel)) rfl
    (sb_cons (pc2 := 11) (sx_aload_n (show decode cX11_bond 10 = .ok (.aload_n 0, 1) by decide +kernel) rfl) rfl
    (sb_cons (pc2 := 14) (sx_getf (show decode cX11_bond 11 = .ok (.getfield 19, 3) by decide +kernel) rfl iX11 (by decide) wd_441) rfl
    (sb_cons (pc2 := 15) (sx_iload_n (show decode cX11_bond 14 = .ok (.iload_n 2, 1) by decide +kernel) rfl) rfl
    (sb_cons (pc2 := 18) (sx_cV (Y' := YX10_timberAt) (q := (RX10, TX10, 5)) rfl (show decode cX11_bond 15 = .ok (.invokevirtual 117, 3) by decide +kernel) rfl rfl (px_w4 wd_517 wd_373 wd_374 wd_375) wd_371 ⟨by decide, by decide, by decide +kernel⟩ (by decide)) rfl
    (sb_cons (pc2 := 20) (sx_astore (show decode cX11_bond 18 = .ok (.astore 5, 2) by decide +kernel)) rfl
    (sb_cons (pc2 := 22) (sx_aload (show decode cX11_bond 20 = .ok (.aload 4, 2) by decide +kernel)) rfl
    (sb_cons (pc2 := 25) (sx_ifnull (show decode cX11_bond 22 = .ok (.ifnull 22, 3) by decide +kernel) (by decide)) rfl
    (sb_cons (pc2 := 27) (sx_aload (show decode cX11_bond 25 = .ok (.aload 5, 2) by decide +kernel)) rfl
    (sb_cons (pc2 := 30) (sx_ifnull (show decode cX11_bond 27 = .ok (.ifnull 17, 3) by decide +kernel) (by decide)) rfl
    (sb_cons (pc2 := 31) (sx_iload_n (show decode cX11_bond 30 = .ok (.iload_n 1, 1) by decide +kernel) rfl) rfl
    (sb_cons (pc2 := 32) (sx_iload_n (show decode cX11_bond 31 = .ok (.iload_n 2, 1) by decide +kernel) rfl) rfl
    (sb_cons (pc2 := 35) (sx_icmp_eq (show decode cX11_bond 32 = .ok (.if_icmp .eq 12, 3) by decide +kernel) (by decide)) rfl
    (sb_cons (pc2 := 36) (sx_iload_n (show decode cX11_bond 35 = .ok (.iload_n 3, 1) by decide +kernel) rfl) rfl
    (sb_cons (pc2 := 39) (sx_if_lt (show decode cX11_bond 36 = .ok (.ifCond .lt 8, 3) by decide +kernel) (by decide)) rfl
    (sb_cons (pc2 := 40) (sx_iload_n (show decode cX11_bond 39 = .ok (.iload_n 3, 1) by decide +kernel) rfl) rfl
    (sb_cons (pc2 := 41) (sx_iconst (show decode cX11_bond 40 = .ok (.iconst 1, 1) by decide +kernel) (by decide)) rfl
    (sb_cons (pc2 := 44) (sx_icmp_le (show decode cX11_bond 41 = .ok (.if_icmp .le 7, 3) by decide +kernel) (by decide)) rfl sb_nil))))))))))))))))))))))
  (ms_cons
  (sb_cons (pc2 := 47) (sx_sipush (show decode cX11_bond 44 = .ok (.sipush (-1000), 3) by decide +kernel) (by decide)) rfl
    (sb_cons (pc2 := 48) (sx_reti (show decode cX11_bond 47 = .ok (.ireturn, 1) by decide +kernel) rfl) rfl sb_nil))
  (ms_cons
  (sb_cons (pc2 := 49) (sx_aload_n (show decode cX11_bond 48 = .ok (.aload_n 0, 1) by decide +kernel) rfl) rfl
    (sb_cons (pc2 := 52) (sx_getf (show decode cX11_bond 49 = .ok (.getfield 40, 3) by decide +kernel) rfl iX11 (by decide) wd_456) rfl
    (sb_cons (pc2 := 54) (sx_aload (show decode cX11_bond 52 = .ok (.aload 4, 2) by decide +kernel)) rfl
    (sb_cons (pc2 := 56) (sx_aload (show decode cX11_bond 54 = .ok (.aload 5, 2) by decide +kernel)) rfl
    (sb_cons (pc2 := 59) (sx_cV (Y' := YX8_match) (q := (RX8, TX8, 3)) rfl (show decode cX11_bond 56 = .ok (.invokevirtual 218, 3) by decide +kernel) rfl rfl (px_w4 wd_603 wd_379 wd_380 wd_370) wd_377 ⟨by decide, by decide, by decide +kernel⟩ (by decide)) rfl
    (sb_cons (pc2 := 60) (sx_iload_n (show decode cX11_bond 59 = .ok (.iload_n 3, 1) by decide +kernel) rfl) rfl
    (sb_cons (pc2 := 63) (sx_if_ne (show decode cX11_bond 60 = .ok (.ifCond .ne 13, 3) by decide +kernel) (by decide)) rfl
    (sb_cons (pc2 := 64) (sx_aload_n (show decode cX11_bond 63 = .ok (.aload_n 0, 1) by decide +kernel) rfl) rfl
    (sb_cons (pc2 := 67) (sx_getf (show decode cX11_bond 64 = .ok (.getfield 40, 3) by decide +kernel) rfl iX11 (by decide) wd_456) rfl
    (sb_cons (pc2 := 70) (sx_getf (show decode cX11_bond 67 = .ok (.getfield 222, 3) by decide +kernel) rfl iX8 (by decide) wd_604) rfl
    (sb_cons (pc2 := 73) (px_snd_goto (show decode cX11_bond 70 = .ok (.goto 10, 3) by decide +kernel) (by decide)) rfl sb_nil)))))))))))
  (ms_cons
  (sb_cons (pc2 := 74) (sx_aload_n (show decode cX11_bond 73 = .ok (.aload_n 0, 1) by decide +kernel) rfl) rfl
    (sb_cons (pc2 := 77) (sx_getf (show decode cX11_bond 74 = .ok (.getfield 40, 3) by decide +kernel) rfl iX11 (by decide) wd_456) rfl
    (sb_cons (pc2 := 80) (sx_getf (show decode cX11_bond 77 = .ok (.getfield 225, 3) by decide +kernel) rfl iX8 (by decide) wd_605) rfl sb_nil)))
  (ms_cons
  (sb_cons (pc2 := 81) (sx_reti (show decode cX11_bond 80 = .ok (.ireturn, 1) by decide +kernel) rfl) rfl sb_nil)
  ms_nil)))))
def kX11_best (X : px_X) : px_B := [(0, [], [px_aload 0, px_getf 11 4, px_aload 0, px_getf 11 1, px_iload 1, px_cV X 101 3 8, px_reti], 13)]
set_option maxRecDepth 100000 in
set_option maxHeartbeats 8000000 in
theorem sX11_best (d : Nat) (X : px_X) : px_MS d X YX11_best (kX11_best X) :=
  (ms_cons
  (sb_cons (pc2 := 1) (sx_aload_n (show decode cX11_best 0 = .ok (.aload_n 0, 1) by decide +kernel) rfl) rfl
    (sb_cons (pc2 := 4) (sx_getf (show decode cX11_best 1 = .ok (.getfield 40, 3) by decide +kernel) rfl iX11 (by decide) wd_456) rfl
    (sb_cons (pc2 := 5) (sx_aload_n (show decode cX11_best 4 = .ok (.aload_n 0, 1) by decide +kernel) rfl) rfl
    (sb_cons (pc2 := 8) (sx_getf (show decode cX11_best 5 = .ok (.getfield 19, 3) by decide +kernel) rfl iX11 (by decide) wd_441) rfl
    (sb_cons (pc2 := 9) (sx_iload_n (show decode cX11_best 8 = .ok (.iload_n 1, 1) by decide +kernel) rfl) rfl
    (sb_cons (pc2 := 12) (sx_cV (Y' := YX8_bestOf) (q := (RX8, TX8, 3)) rfl (show decode cX11_best 9 = .ok (.invokevirtual 228, 3) by decide +kernel) rfl rfl (px_w4 wd_607 wd_608 wd_609 wd_370) wd_606 ⟨by decide, by decide, by decide +kernel⟩ (by decide)) rfl
    (sb_cons (pc2 := 13) (sx_reti (show decode cX11_best 12 = .ok (.ireturn, 1) by decide +kernel) rfl) rfl sb_nil)))))))
  ms_nil)
def kX11_joined (X : px_X) : px_B := [(0, [], [px_aload 0, px_getf 11 4, px_aload 0, px_getf 11 1, px_iload 1, px_cV X 101 3 8, px_istore 2, px_iload 2, px_if1 (fun x => decide (0 ≤ x)) 19, px_iload 2, px_reti], 19),
  (19, [true, true, true], [px_aload 0, px_getf 11 4, px_aload 0, px_getf 11 1, px_iload 2, px_cV X 101 3 8, px_iload 1, px_if2 (fun x y => decide (¬ x = y)) 39, px_iload 2, px_goto 40], 39),
  (39, [false, false, false], [px_push (.int (-1))], 40),
  (40, [false, false, false], [px_reti], 41)]
set_option maxRecDepth 100000 in
set_option maxHeartbeats 8000000 in
theorem sX11_joined (d : Nat) (X : px_X) : px_MS d X YX11_joined (kX11_joined X) :=
  (ms_cons
  (sb_cons (pc2 := 1) (sx_aload_n (show decode cX11_joined 0 = .ok (.aload_n 0, 1) by decide +kernel) rfl) rfl
    (sb_cons (pc2 := 4) (sx_getf (show decode cX11_joined 1 = .ok (.getfield 40, 3) by decide +kernel) rfl iX11 (by decide) wd_456) rfl
    (sb_cons (pc2 := 5) (sx_aload_n (show decode cX11_joined 4 = .ok (.aload_n 0, 1) by decide +kernel) rfl) rfl
    (sb_cons (pc2 := 8) (sx_getf (show decode cX11_joined 5 = .ok (.getfield 19, 3) by decide +kernel) rfl iX11 (by decide) wd_441) rfl
    (sb_cons (pc2 := 9) (sx_iload_n (show decode cX11_joined 8 = .ok (.iload_n 1, 1) by decide +kernel) rfl) rfl
    (sb_cons (pc2 := 12) (sx_cV (Y' := YX8_bestOf) (q := (RX8, TX8, 3)) rfl (show decode cX11_joined 9 = .ok (.invokevirtual 228, 3) by decide +kernel) rfl rfl (px_w4 wd_607 wd_608 wd_609 wd_370) wd_606 ⟨by decide, by decide, by decide +kernel⟩ (by decide)) rfl
    (sb_cons (pc2 := 13) (sx_istore_n (show decode cX11_joined 12 = .ok (.istore_n 2, 1) by decide +kernel) rfl) rfl
    (sb_cons (pc2 := 14) (sx_iload_n (show decode cX11_joined 13 = .ok (.iload_n 2, 1) by decide +kernel) rfl) rfl
    (sb_cons (pc2 := 17) (sx_if_ge (show decode cX11_joined 14 = .ok (.ifCond .ge 5, 3) by decide +kernel) (by decide)) rfl
    (sb_cons (pc2 := 18) (sx_iload_n (show decode cX11_joined 17 = .ok (.iload_n 2, 1) by decide +kernel) rfl) rfl
    (sb_cons (pc2 := 19) (sx_reti (show decode cX11_joined 18 = .ok (.ireturn, 1) by decide +kernel) rfl) rfl sb_nil)))))))))))
  (ms_cons
  (sb_cons (pc2 := 20) (sx_aload_n (show decode cX11_joined 19 = .ok (.aload_n 0, 1) by decide +kernel) rfl) rfl
    (sb_cons (pc2 := 23) (sx_getf (show decode cX11_joined 20 = .ok (.getfield 40, 3) by decide +kernel) rfl iX11 (by decide) wd_456) rfl
    (sb_cons (pc2 := 24) (sx_aload_n (show decode cX11_joined 23 = .ok (.aload_n 0, 1) by decide +kernel) rfl) rfl
    (sb_cons (pc2 := 27) (sx_getf (show decode cX11_joined 24 = .ok (.getfield 19, 3) by decide +kernel) rfl iX11 (by decide) wd_441) rfl
    (sb_cons (pc2 := 28) (sx_iload_n (show decode cX11_joined 27 = .ok (.iload_n 2, 1) by decide +kernel) rfl) rfl
    (sb_cons (pc2 := 31) (sx_cV (Y' := YX8_bestOf) (q := (RX8, TX8, 3)) rfl (show decode cX11_joined 28 = .ok (.invokevirtual 228, 3) by decide +kernel) rfl rfl (px_w4 wd_607 wd_608 wd_609 wd_370) wd_606 ⟨by decide, by decide, by decide +kernel⟩ (by decide)) rfl
    (sb_cons (pc2 := 32) (sx_iload_n (show decode cX11_joined 31 = .ok (.iload_n 1, 1) by decide +kernel) rfl) rfl
    (sb_cons (pc2 := 35) (sx_icmp_ne (show decode cX11_joined 32 = .ok (.if_icmp .ne 7, 3) by decide +kernel) (by decide)) rfl
    (sb_cons (pc2 := 36) (sx_iload_n (show decode cX11_joined 35 = .ok (.iload_n 2, 1) by decide +kernel) rfl) rfl
    (sb_cons (pc2 := 39) (px_snd_goto (show decode cX11_joined 36 = .ok (.goto 4, 3) by decide +kernel) (by decide)) rfl sb_nil))))))))))
  (ms_cons
  (sb_cons (pc2 := 40) (sx_iconst (show decode cX11_joined 39 = .ok (.iconst (-1), 1) by decide +kernel) (by decide)) rfl sb_nil)
  (ms_cons
  (sb_cons (pc2 := 41) (sx_reti (show decode cX11_joined 40 = .ok (.ireturn, 1) by decide +kernel) rfl) rfl sb_nil)
  ms_nil))))
def kX11_task (X : px_X) : px_B := [(0, [], [px_aload 0, px_getf 11 5, px_iload 1, px_iload 2, px_cV X 31 3 3, px_reti], 10)]
set_option maxRecDepth 100000 in
set_option maxHeartbeats 8000000 in
theorem sX11_task (d : Nat) (X : px_X) : px_MS d X YX11_task (kX11_task X) :=
  (ms_cons
  (sb_cons (pc2 := 1) (sx_aload_n (show decode cX11_task 0 = .ok (.aload_n 0, 1) by decide +kernel) rfl) rfl
    (sb_cons (pc2 := 4) (sx_getf (show decode cX11_task 1 = .ok (.getfield 47, 3) by decide +kernel) rfl iX11 (by decide) wd_461) rfl
    (sb_cons (pc2 := 5) (sx_iload_n (show decode cX11_task 4 = .ok (.iload_n 1, 1) by decide +kernel) rfl) rfl
    (sb_cons (pc2 := 6) (sx_iload_n (show decode cX11_task 5 = .ok (.iload_n 2, 1) by decide +kernel) rfl) rfl
    (sb_cons (pc2 := 9) (sx_cV (Y' := YX3_addTask) (q := (RX3, TX3, 10)) rfl (show decode cX11_task 6 = .ok (.invokevirtual 232, 3) by decide +kernel) rfl rfl (px_w4 wd_611 wd_612 wd_613 wd_120) wd_610 ⟨by decide, by decide, by decide +kernel⟩ (by decide)) rfl
    (sb_cons (pc2 := 10) (sx_reti (show decode cX11_task 9 = .ok (.ireturn, 1) by decide +kernel) rfl) rfl sb_nil))))))
  ms_nil)
def kX11_gang (X : px_X) : px_B := [(0, [], [px_aload 0, px_getf 11 5, px_iload 1, px_cV X 32 2 3, px_reti], 9)]
set_option maxRecDepth 100000 in
set_option maxHeartbeats 8000000 in
theorem sX11_gang (d : Nat) (X : px_X) : px_MS d X YX11_gang (kX11_gang X) :=
  (ms_cons
  (sb_cons (pc2 := 1) (sx_aload_n (show decode cX11_gang 0 = .ok (.aload_n 0, 1) by decide +kernel) rfl) rfl
    (sb_cons (pc2 := 4) (sx_getf (show decode cX11_gang 1 = .ok (.getfield 47, 3) by decide +kernel) rfl iX11 (by decide) wd_461) rfl
    (sb_cons (pc2 := 5) (sx_iload_n (show decode cX11_gang 4 = .ok (.iload_n 1, 1) by decide +kernel) rfl) rfl
    (sb_cons (pc2 := 8) (sx_cV (Y' := YX3_addGang) (q := (RX3, TX3, 10)) rfl (show decode cX11_gang 5 = .ok (.invokevirtual 235, 3) by decide +kernel) rfl rfl (px_w4 wd_615 wd_616 wd_617 wd_120) wd_614 ⟨by decide, by decide, by decide +kernel⟩ (by decide)) rfl
    (sb_cons (pc2 := 9) (sx_reti (show decode cX11_gang 8 = .ok (.ireturn, 1) by decide +kernel) rfl) rfl sb_nil)))))
  ms_nil)
def kX11_plan (X : px_X) : px_B := [(0, [], [px_aload 0, px_getf 11 5, px_cV X 33 1 3, px_reti], 8)]
set_option maxRecDepth 100000 in
set_option maxHeartbeats 8000000 in
theorem sX11_plan (d : Nat) (X : px_X) : px_MS d X YX11_plan (kX11_plan X) :=
  (ms_cons
  (sb_cons (pc2 := 1) (sx_aload_n (show decode cX11_plan 0 = .ok (.aload_n 0, 1) by decide +kernel) rfl) rfl
    (sb_cons (pc2 := 4) (sx_getf (show decode cX11_plan 1 = .ok (.getfield 47, 3) by decide +kernel) rfl iX11 (by decide) wd_461) rfl
    (sb_cons (pc2 := 7) (sx_cV (Y' := YX3_greatestWorth) (q := (RX3, TX3, 10)) rfl (show decode cX11_plan 4 = .ok (.invokevirtual 238, 3) by decide +kernel) rfl rfl (px_w4 wd_619 wd_620 wd_621 wd_120) wd_618 ⟨by decide, by decide, by decide +kernel⟩ (by decide)) rfl
    (sb_cons (pc2 := 8) (sx_reti (show decode cX11_plan 7 = .ok (.ireturn, 1) by decide +kernel) rfl) rfl sb_nil))))
  ms_nil)
def kX11_planned (X : px_X) : px_B := [(0, [], [px_aload 0, px_getf 11 5, px_iload 1, px_cV X 34 2 3, px_reti], 9)]
set_option maxRecDepth 100000 in
set_option maxHeartbeats 8000000 in
theorem sX11_planned (d : Nat) (X : px_X) : px_MS d X YX11_planned (kX11_planned X) :=
  (ms_cons
  (sb_cons (pc2 := 1) (sx_aload_n (show decode cX11_planned 0 = .ok (.aload_n 0, 1) by decide +kernel) rfl) rfl
    (sb_cons (pc2 := 4) (sx_getf (show decode cX11_planned 1 = .ok (.getfield 47, 3) by decide +kernel) rfl iX11 (by decide) wd_461) rfl
    (sb_cons (pc2 := 5) (sx_iload_n (show decode cX11_planned 4 = .ok (.iload_n 1, 1) by decide +kernel) rfl) rfl
    (sb_cons (pc2 := 8) (sx_cV (Y' := YX3_gangOf) (q := (RX3, TX3, 10)) rfl (show decode cX11_planned 5 = .ok (.invokevirtual 241, 3) by decide +kernel) rfl rfl (px_w4 wd_623 wd_624 wd_625 wd_120) wd_622 ⟨by decide, by decide, by decide +kernel⟩ (by decide)) rfl
    (sb_cons (pc2 := 9) (sx_reti (show decode cX11_planned 8 = .ok (.ireturn, 1) by decide +kernel) rfl) rfl sb_nil)))))
  ms_nil)
def kX11_hatches (X : px_X) : px_B := [(0, [], [px_aload 0, px_getf 11 6, px_iload 1, px_cV X 103 2 9, px_reti], 9)]
set_option maxRecDepth 100000 in
set_option maxHeartbeats 8000000 in
theorem sX11_hatches (d : Nat) (X : px_X) : px_MS d X YX11_hatches (kX11_hatches X) :=
  (ms_cons
  (sb_cons (pc2 := 1) (sx_aload_n (show decode cX11_hatches 0 = .ok (.aload_n 0, 1) by decide +kernel) rfl) rfl
    (sb_cons (pc2 := 4) (sx_getf (show decode cX11_hatches 1 = .ok (.getfield 54, 3) by decide +kernel) rfl iX11 (by decide) wd_466) rfl
    (sb_cons (pc2 := 5) (sx_iload_n (show decode cX11_hatches 4 = .ok (.iload_n 1, 1) by decide +kernel) rfl) rfl
    (sb_cons (pc2 := 8) (sx_cV (Y' := YX9_openHatches) (q := (RX9, TX9, 2)) rfl (show decode cX11_hatches 5 = .ok (.invokevirtual 244, 3) by decide +kernel) rfl rfl (px_w4 wd_627 wd_628 wd_629 wd_388) wd_626 ⟨by decide, by decide, by decide +kernel⟩ (by decide)) rfl
    (sb_cons (pc2 := 9) (sx_reti (show decode cX11_hatches 8 = .ok (.ireturn, 1) by decide +kernel) rfl) rfl sb_nil)))))
  ms_nil)
def kX11_roll (X : px_X) : px_B := [(0, [], [px_aload 0, px_getf 11 6, px_iload 1, px_cV X 104 2 9, px_reti], 9)]
set_option maxRecDepth 100000 in
set_option maxHeartbeats 8000000 in
theorem sX11_roll (d : Nat) (X : px_X) : px_MS d X YX11_roll (kX11_roll X) :=
  (ms_cons
  (sb_cons (pc2 := 1) (sx_aload_n (show decode cX11_roll 0 = .ok (.aload_n 0, 1) by decide +kernel) rfl) rfl
    (sb_cons (pc2 := 4) (sx_getf (show decode cX11_roll 1 = .ok (.getfield 54, 3) by decide +kernel) rfl iX11 (by decide) wd_466) rfl
    (sb_cons (pc2 := 5) (sx_iload_n (show decode cX11_roll 4 = .ok (.iload_n 1, 1) by decide +kernel) rfl) rfl
    (sb_cons (pc2 := 8) (sx_cV (Y' := YX9_changeRoll) (q := (RX9, TX9, 2)) rfl (show decode cX11_roll 5 = .ok (.invokevirtual 247, 3) by decide +kernel) rfl rfl (px_w4 wd_631 wd_632 wd_633 wd_388) wd_630 ⟨by decide, by decide, by decide +kernel⟩ (by decide)) rfl
    (sb_cons (pc2 := 9) (sx_reti (show decode cX11_roll 8 = .ok (.ireturn, 1) by decide +kernel) rfl) rfl sb_nil)))))
  ms_nil)
def kX11_stood (X : px_X) : px_B := [(0, [], [px_aload 0, px_getf 11 1, px_iload 1, px_cV X 111 2 10, px_astore 2, px_aload 2, px_ifnonnull 18, px_push (.int (-2)), px_goto 26], 18),
  (18, [true, false, true], [px_aload 0, px_getf 11 6, px_aload 2, px_cV X 105 2 9], 26),
  (26, [false, false, false], [px_reti], 27)]
set_option maxRecDepth 100000 in
set_option maxHeartbeats 8000000 in
theorem sX11_stood (d : Nat) (X : px_X) : px_MS d X YX11_stood (kX11_stood X) :=
  (ms_cons
  (sb_cons (pc2 := 1) (sx_aload_n (show decode cX11_stood 0 = .ok (.aload_n 0, 1) by decide +kernel) rfl) rfl
    (sb_cons (pc2 := 4) (sx_getf (show decode cX11_stood 1 = .ok (.getfield 19, 3) by decide +kernel) rfl iX11 (by decide) wd_441) rfl
    (sb_cons (pc2 := 5) (sx_iload_n (show decode cX11_stood 4 = .ok (.iload_n 1, 1) by decide +kernel) rfl) rfl
    (sb_cons (pc2 := 8) (sx_cV (Y' := YX10_findAt) (q := (RX10, TX10, 5)) rfl (show decode cX11_stood 5 = .ok (.invokevirtual 126, 3) by decide +kernel) rfl rfl (px_w4 wd_522 wd_409 wd_410 wd_375) wd_407 ⟨by decide, by decide, by decide +kernel⟩ (by decide)) rfl
    (sb_cons (pc2 := 9) (sx_astore_n (show decode cX11_stood 8 = .ok (.astore_n 2, 1) by decide +kernel) rfl) rfl
    (sb_cons (pc2 := 10) (sx_aload_n (show decode cX11_stood 9 = .ok (.aload_n 2, 1) by decide +kernel) rfl) rfl
    (sb_cons (pc2 := 13) (sx_ifnonnull (show decode cX11_stood 10 = .ok (.ifnonnull 8, 3) by decide +kernel) (by decide)) rfl
    (sb_cons (pc2 := 15) (sx_bipush (show decode cX11_stood 13 = .ok (.bipush (-2), 2) by decide +kernel) (by decide)) rfl
    (sb_cons (pc2 := 18) (px_snd_goto (show decode cX11_stood 15 = .ok (.goto 11, 3) by decide +kernel) (by decide)) rfl sb_nil)))))))))
  (ms_cons
  (sb_cons (pc2 := 19) (sx_aload_n (show decode cX11_stood 18 = .ok (.aload_n 0, 1) by decide +kernel) rfl) rfl
    (sb_cons (pc2 := 22) (sx_getf (show decode cX11_stood 19 = .ok (.getfield 54, 3) by decide +kernel) rfl iX11 (by decide) wd_466) rfl
    (sb_cons (pc2 := 23) (sx_aload_n (show decode cX11_stood 22 = .ok (.aload_n 2, 1) by decide +kernel) rfl) rfl
    (sb_cons (pc2 := 26) (sx_cV (Y' := YX9_ways) (q := (RX9, TX9, 2)) rfl (show decode cX11_stood 23 = .ok (.invokevirtual 250, 3) by decide +kernel) rfl rfl (px_w4 wd_635 wd_636 wd_637 wd_388) wd_634 ⟨by decide, by decide, by decide +kernel⟩ (by decide)) rfl sb_nil))))
  (ms_cons
  (sb_cons (pc2 := 27) (sx_reti (show decode cX11_stood 26 = .ok (.ireturn, 1) by decide +kernel) rfl) rfl sb_nil)
  ms_nil)))
def kX11_stoodAt (X : px_X) : px_B := [(0, [], [px_aload 0, px_getf 11 1, px_iload 1, px_cV X 111 2 10, px_astore 3, px_aload 3, px_ifnonnull 18, px_push (.int (-2)), px_goto 27], 18),
  (18, [true, false, true, true], [px_aload 0, px_getf 11 6, px_aload 3, px_iload 2, px_cV X 106 3 9], 27),
  (27, [false, false, false, false], [px_reti], 28)]
set_option maxRecDepth 100000 in
set_option maxHeartbeats 8000000 in
theorem sX11_stoodAt (d : Nat) (X : px_X) : px_MS d X YX11_stoodAt (kX11_stoodAt X) :=
  (ms_cons
  (sb_cons (pc2 := 1) (sx_aload_n (show decode cX11_stoodAt 0 = .ok (.aload_n 0, 1) by decide +kernel) rfl) rfl
    (sb_cons (pc2 := 4) (sx_getf (show decode cX11_stoodAt 1 = .ok (.getfield 19, 3) by decide +kernel) rfl iX11 (by decide) wd_441) rfl
    (sb_cons (pc2 := 5) (sx_iload_n (show decode cX11_stoodAt 4 = .ok (.iload_n 1, 1) by decide +kernel) rfl) rfl
    (sb_cons (pc2 := 8) (sx_cV (Y' := YX10_findAt) (q := (RX10, TX10, 5)) rfl (show decode cX11_stoodAt 5 = .ok (.invokevirtual 126, 3) by decide +kernel) rfl rfl (px_w4 wd_522 wd_409 wd_410 wd_375) wd_407 ⟨by decide, by decide, by decide +kernel⟩ (by decide)) rfl
    (sb_cons (pc2 := 9) (sx_astore_n (show decode cX11_stoodAt 8 = .ok (.astore_n 3, 1) by decide +kernel) rfl) rfl
    (sb_cons (pc2 := 10) (sx_aload_n (show decode cX11_stoodAt 9 = .ok (.aload_n 3, 1) by decide +kernel) rfl) rfl
    (sb_cons (pc2 := 13) (sx_ifnonnull (show decode cX11_stoodAt 10 = .ok (.ifnonnull 8, 3) by decide +kernel) (by decide)) rfl
    (sb_cons (pc2 := 15) (sx_bipush (show decode cX11_stoodAt 13 = .ok (.bipush (-2), 2) by decide +kernel) (by decide)) rfl
    (sb_cons (pc2 := 18) (px_snd_goto (show decode cX11_stoodAt 15 = .ok (.goto 12, 3) by decide +kernel) (by decide)) rfl sb_nil)))))))))
  (ms_cons
  (sb_cons (pc2 := 19) (sx_aload_n (show decode cX11_stoodAt 18 = .ok (.aload_n 0, 1) by decide +kernel) rfl) rfl
    (sb_cons (pc2 := 22) (sx_getf (show decode cX11_stoodAt 19 = .ok (.getfield 54, 3) by decide +kernel) rfl iX11 (by decide) wd_466) rfl
    (sb_cons (pc2 := 23) (sx_aload_n (show decode cX11_stoodAt 22 = .ok (.aload_n 3, 1) by decide +kernel) rfl) rfl
    (sb_cons (pc2 := 24) (sx_iload_n (show decode cX11_stoodAt 23 = .ok (.iload_n 2, 1) by decide +kernel) rfl) rfl
    (sb_cons (pc2 := 27) (sx_cV (Y' := YX9_wayAt) (q := (RX9, TX9, 2)) rfl (show decode cX11_stoodAt 24 = .ok (.invokevirtual 254, 3) by decide +kernel) rfl rfl (px_w4 wd_639 wd_640 wd_641 wd_388) wd_638 ⟨by decide, by decide, by decide +kernel⟩ (by decide)) rfl sb_nil)))))
  (ms_cons
  (sb_cons (pc2 := 28) (sx_reti (show decode cX11_stoodAt 27 = .ok (.ireturn, 1) by decide +kernel) rfl) rfl sb_nil)
  ms_nil)))
def kX11_count (X : px_X) : px_B := [(0, [], [px_iload 1, px_sw [(0, 68), (1, 76), (2, 84), (3, 92), (4, 100), (5, 108), (6, 116), (7, 124), (8, 132), (9, 143), (10, 151), (11, 159), (12, 167)] 175], 68),
  (68, [true, false], [px_aload 0, px_getf 11 0, px_getf 7 0, px_reti], 76),
  (76, [true, false], [px_aload 0, px_getf 11 0, px_getf 7 1, px_reti], 84),
  (84, [true, false], [px_aload 0, px_getf 11 1, px_getf 10 0, px_reti], 92),
  (92, [true, false], [px_aload 0, px_getf 11 1, px_getf 10 1, px_reti], 100),
  (100, [true, false], [px_aload 0, px_getf 11 2, px_getf 1 0, px_reti], 108),
  (108, [true, false], [px_aload 0, px_getf 11 2, px_getf 1 1, px_reti], 116),
  (116, [true, false], [px_aload 0, px_getf 11 2, px_getf 1 2, px_reti], 124),
  (124, [true, false], [px_aload 0, px_getf 11 3, px_getf 5 2, px_reti], 132),
  (132, [true, false], [px_aload 0, px_getf 11 3, px_getf 5 0, px_getf 4 0, px_reti], 143),
  (143, [true, false], [px_aload 0, px_getf 11 5, px_getf 3 0, px_reti], 151),
  (151, [true, false], [px_aload 0, px_getf 11 5, px_getf 3 1, px_reti], 159),
  (159, [true, false], [px_aload 0, px_getf 11 1, px_cV X 113 1 10, px_reti], 167),
  (167, [true, false], [px_aload 0, px_getf 11 0, px_cV X 88 1 7, px_reti], 175),
  (175, [false, false], [px_push (.int (-2)), px_reti], 178)]
set_option maxRecDepth 100000 in
set_option maxHeartbeats 8000000 in
theorem sX11_count (d : Nat) (X : px_X) : px_MS d X YX11_count (kX11_count X) :=
  (ms_cons
  (sb_cons (pc2 := 1) (sx_iload_n (show decode cX11_count 0 = .ok (.iload_n 1, 1) by decide +kernel) rfl) rfl
    (sb_cons (pc2 := 68) (sx_tsw (show decode cX11_count 1 = .ok (.tableswitch 174 0 12 #[67, 75, 83, 91, 99, 107, 115, 123, 131, 142, 150, 158, 166], 67) by decide +kernel) (by decide) (by decide +kernel) (by decide +kernel)) rfl sb_nil))
  (ms_cons
  (sb_cons (pc2 := 69) (sx_aload_n (show decode cX11_count 68 = .ok (.aload_n 0, 1) by decide +kernel) rfl) rfl
    (sb_cons (pc2 := 72) (sx_getf (show decode cX11_count 69 = .ok (.getfield 12, 3) by decide +kernel) rfl iX11 (by decide) wd_436) rfl
    (sb_cons (pc2 := 75) (sx_getf (show decode cX11_count 72 = .ok (.getfield 257, 3) by decide +kernel) rfl iX7 (by decide) wd_642) rfl
    (sb_cons (pc2 := 76) (sx_reti (show decode cX11_count 75 = .ok (.ireturn, 1) by decide +kernel) rfl) rfl sb_nil))))
  (ms_cons
  (sb_cons (pc2 := 77) (sx_aload_n (show decode cX11_count 76 = .ok (.aload_n 0, 1) by decide +kernel) rfl) rfl
    (sb_cons (pc2 := 80) (sx_getf (show decode cX11_count 77 = .ok (.getfield 12, 3) by decide +kernel) rfl iX11 (by decide) wd_436) rfl
    (sb_cons (pc2 := 83) (sx_getf (show decode cX11_count 80 = .ok (.getfield 89, 3) by decide +kernel) rfl iX7 (by decide) wd_488) rfl
    (sb_cons (pc2 := 84) (sx_reti (show decode cX11_count 83 = .ok (.ireturn, 1) by decide +kernel) rfl) rfl sb_nil))))
  (ms_cons
  (sb_cons (pc2 := 85) (sx_aload_n (show decode cX11_count 84 = .ok (.aload_n 0, 1) by decide +kernel) rfl) rfl
    (sb_cons (pc2 := 88) (sx_getf (show decode cX11_count 85 = .ok (.getfield 19, 3) by decide +kernel) rfl iX11 (by decide) wd_441) rfl
    (sb_cons (pc2 := 91) (sx_getf (show decode cX11_count 88 = .ok (.getfield 260, 3) by decide +kernel) rfl iX10 (by decide) wd_643) rfl
    (sb_cons (pc2 := 92) (sx_reti (show decode cX11_count 91 = .ok (.ireturn, 1) by decide +kernel) rfl) rfl sb_nil))))
  (ms_cons
  (sb_cons (pc2 := 93) (sx_aload_n (show decode cX11_count 92 = .ok (.aload_n 0, 1) by decide +kernel) rfl) rfl
    (sb_cons (pc2 := 96) (sx_getf (show decode cX11_count 93 = .ok (.getfield 19, 3) by decide +kernel) rfl iX11 (by decide) wd_441) rfl
    (sb_cons (pc2 := 99) (sx_getf (show decode cX11_count 96 = .ok (.getfield 263, 3) by decide +kernel) rfl iX10 (by decide) wd_644) rfl
    (sb_cons (pc2 := 100) (sx_reti (show decode cX11_count 99 = .ok (.ireturn, 1) by decide +kernel) rfl) rfl sb_nil))))
  (ms_cons
  (sb_cons (pc2 := 101) (sx_aload_n (show decode cX11_count 100 = .ok (.aload_n 0, 1) by decide +kernel) rfl) rfl
    (sb_cons (pc2 := 104) (sx_getf (show decode cX11_count 101 = .ok (.getfield 26, 3) by decide +kernel) rfl iX11 (by decide) wd_446) rfl
    (sb_cons (pc2 := 107) (sx_getf (show decode cX11_count 104 = .ok (.getfield 266, 3) by decide +kernel) rfl iX1 (by decide) wd_645) rfl
    (sb_cons (pc2 := 108) (sx_reti (show decode cX11_count 107 = .ok (.ireturn, 1) by decide +kernel) rfl) rfl sb_nil))))
  (ms_cons
  (sb_cons (pc2 := 109) (sx_aload_n (show decode cX11_count 108 = .ok (.aload_n 0, 1) by decide +kernel) rfl) rfl
    (sb_cons (pc2 := 112) (sx_getf (show decode cX11_count 109 = .ok (.getfield 26, 3) by decide +kernel) rfl iX11 (by decide) wd_446) rfl
    (sb_cons (pc2 := 115) (sx_getf (show decode cX11_count 112 = .ok (.getfield 269, 3) by decide +kernel) rfl iX1 (by decide) wd_646) rfl
    (sb_cons (pc2 := 116) (sx_reti (show decode cX11_count 115 = .ok (.ireturn, 1) by decide +kernel) rfl) rfl sb_nil))))
  (ms_cons
  (sb_cons (pc2 := 117) (sx_aload_n (show decode cX11_count 116 = .ok (.aload_n 0, 1) by decide +kernel) rfl) rfl
    (sb_cons (pc2 := 120) (sx_getf (show decode cX11_count 117 = .ok (.getfield 26, 3) by decide +kernel) rfl iX11 (by decide) wd_446) rfl
    (sb_cons (pc2 := 123) (sx_getf (show decode cX11_count 120 = .ok (.getfield 272, 3) by decide +kernel) rfl iX1 (by decide) wd_647) rfl
    (sb_cons (pc2 := 124) (sx_reti (show decode cX11_count 123 = .ok (.ireturn, 1) by decide +kernel) rfl) rfl sb_nil))))
  (ms_cons
  (sb_cons (pc2 := 125) (sx_aload_n (show decode cX11_count 124 = .ok (.aload_n 0, 1) by decide +kernel) rfl) rfl
    (sb_cons (pc2 := 128) (sx_getf (show decode cX11_count 125 = .ok (.getfield 33, 3) by decide +kernel) rfl iX11 (by decide) wd_451) rfl
    (sb_cons (pc2 := 131) (sx_getf (show decode cX11_count 128 = .ok (.getfield 275, 3) by decide +kernel) rfl iX5 (by decide) wd_648) rfl
    (sb_cons (pc2 := 132) (sx_reti (show decode cX11_count 131 = .ok (.ireturn, 1) by decide +kernel) rfl) rfl sb_nil))))
  (ms_cons
  (sb_cons (pc2 := 133) (sx_aload_n (show decode cX11_count 132 = .ok (.aload_n 0, 1) by decide +kernel) rfl) rfl
    (sb_cons (pc2 := 136) (sx_getf (show decode cX11_count 133 = .ok (.getfield 33, 3) by decide +kernel) rfl iX11 (by decide) wd_451) rfl
    (sb_cons (pc2 := 139) (sx_getf (show decode cX11_count 136 = .ok (.getfield 155, 3) by decide +kernel) rfl iX5 (by decide) wd_551) rfl
    (sb_cons (pc2 := 142) (sx_getf (show decode cX11_count 139 = .ok (.getfield 209, 3) by decide +kernel) rfl iX4 (by decide) wd_600) rfl
    (sb_cons (pc2 := 143) (sx_reti (show decode cX11_count 142 = .ok (.ireturn, 1) by decide +kernel) rfl) rfl sb_nil)))))
  (ms_cons
  (sb_cons (pc2 := 144) (sx_aload_n (show decode cX11_count 143 = .ok (.aload_n 0, 1) by decide +kernel) rfl) rfl
    (sb_cons (pc2 := 147) (sx_getf (show decode cX11_count 144 = .ok (.getfield 47, 3) by decide +kernel) rfl iX11 (by decide) wd_461) rfl
    (sb_cons (pc2 := 150) (sx_getf (show decode cX11_count 147 = .ok (.getfield 278, 3) by decide +kernel) rfl iX3 (by decide) wd_649) rfl
    (sb_cons (pc2 := 151) (sx_reti (show decode cX11_count 150 = .ok (.ireturn, 1) by decide +kernel) rfl) rfl sb_nil))))
  (ms_cons
  (sb_cons (pc2 := 152) (sx_aload_n (show decode cX11_count 151 = .ok (.aload_n 0, 1) by decide +kernel) rfl) rfl
    (sb_cons (pc2 := 155) (sx_getf (show decode cX11_count 152 = .ok (.getfield 47, 3) by decide +kernel) rfl iX11 (by decide) wd_461) rfl
    (sb_cons (pc2 := 158) (sx_getf (show decode cX11_count 155 = .ok (.getfield 281, 3) by decide +kernel) rfl iX3 (by decide) wd_650) rfl
    (sb_cons (pc2 := 159) (sx_reti (show decode cX11_count 158 = .ok (.ireturn, 1) by decide +kernel) rfl) rfl sb_nil))))
  (ms_cons
  (sb_cons (pc2 := 160) (sx_aload_n (show decode cX11_count 159 = .ok (.aload_n 0, 1) by decide +kernel) rfl) rfl
    (sb_cons (pc2 := 163) (sx_getf (show decode cX11_count 160 = .ok (.getfield 19, 3) by decide +kernel) rfl iX11 (by decide) wd_441) rfl
    (sb_cons (pc2 := 166) (sx_cV (Y' := YX10_inField) (q := (RX10, TX10, 5)) rfl (show decode cX11_count 163 = .ok (.invokevirtual 284, 3) by decide +kernel) rfl rfl (px_w4 wd_652 wd_653 wd_654 wd_375) wd_651 ⟨by decide, by decide, by decide +kernel⟩ (by decide)) rfl
    (sb_cons (pc2 := 167) (sx_reti (show decode cX11_count 166 = .ok (.ireturn, 1) by decide +kernel) rfl) rfl sb_nil))))
  (ms_cons
  (sb_cons (pc2 := 168) (sx_aload_n (show decode cX11_count 167 = .ok (.aload_n 0, 1) by decide +kernel) rfl) rfl
    (sb_cons (pc2 := 171) (sx_getf (show decode cX11_count 168 = .ok (.getfield 12, 3) by decide +kernel) rfl iX11 (by decide) wd_436) rfl
    (sb_cons (pc2 := 174) (sx_cV (Y' := YX7_fittedRound) (q := (RX7, TX7, 18)) rfl (show decode cX11_count 171 = .ok (.invokevirtual 287, 3) by decide +kernel) rfl rfl (px_w4 wd_655 wd_319 wd_320 wd_311) wd_317 ⟨by decide, by decide, by decide +kernel⟩ (by decide)) rfl
    (sb_cons (pc2 := 175) (sx_reti (show decode cX11_count 174 = .ok (.ireturn, 1) by decide +kernel) rfl) rfl sb_nil))))
  (ms_cons
  (sb_cons (pc2 := 177) (sx_bipush (show decode cX11_count 175 = .ok (.bipush (-2), 2) by decide +kernel) (by decide)) rfl
    (sb_cons (pc2 := 178) (sx_reti (show decode cX11_count 177 = .ok (.ireturn, 1) by decide +kernel) rfl) rfl sb_nil))
  ms_nil)))))))))))))))
def kX11_sheet (X : px_X) : px_B := [(0, [], [px_aload 0, px_getf 11 7, px_iload 1, px_iload 2, px_iload 3, px_cV X 71 4 6, px_reti], 11)]
set_option maxRecDepth 100000 in
set_option maxHeartbeats 8000000 in
theorem sX11_sheet (d : Nat) (X : px_X) : px_MS d X YX11_sheet (kX11_sheet X) :=
  (ms_cons
  (sb_cons (pc2 := 1) (sx_aload_n (show decode cX11_sheet 0 = .ok (.aload_n 0, 1) by decide +kernel) rfl) rfl
    (sb_cons (pc2 := 4) (sx_getf (show decode cX11_sheet 1 = .ok (.getfield 61, 3) by decide +kernel) rfl iX11 (by decide) wd_471) rfl
    (sb_cons (pc2 := 5) (sx_iload_n (show decode cX11_sheet 4 = .ok (.iload_n 1, 1) by decide +kernel) rfl) rfl
    (sb_cons (pc2 := 6) (sx_iload_n (show decode cX11_sheet 5 = .ok (.iload_n 2, 1) by decide +kernel) rfl) rfl
    (sb_cons (pc2 := 7) (sx_iload_n (show decode cX11_sheet 6 = .ok (.iload_n 3, 1) by decide +kernel) rfl) rfl
    (sb_cons (pc2 := 10) (sx_cV (Y' := YX6_make) (q := (RX6, TX6, 3)) rfl (show decode cX11_sheet 7 = .ok (.invokevirtual 290, 3) by decide +kernel) rfl rfl (px_w4 wd_657 wd_658 wd_659 wd_272) wd_656 ⟨by decide, by decide, by decide +kernel⟩ (by decide)) rfl
    (sb_cons (pc2 := 11) (sx_reti (show decode cX11_sheet 10 = .ok (.ireturn, 1) by decide +kernel) rfl) rfl sb_nil)))))))
  ms_nil)
def kX11_cell (X : px_X) : px_B := [(0, [], [px_aload 0, px_getf 11 7, px_iload 1, px_iload 2, px_iload 3, px_cV X 72 4 6, px_reti], 11)]
set_option maxRecDepth 100000 in
set_option maxHeartbeats 8000000 in
theorem sX11_cell (d : Nat) (X : px_X) : px_MS d X YX11_cell (kX11_cell X) :=
  (ms_cons
  (sb_cons (pc2 := 1) (sx_aload_n (show decode cX11_cell 0 = .ok (.aload_n 0, 1) by decide +kernel) rfl) rfl
    (sb_cons (pc2 := 4) (sx_getf (show decode cX11_cell 1 = .ok (.getfield 61, 3) by decide +kernel) rfl iX11 (by decide) wd_471) rfl
    (sb_cons (pc2 := 5) (sx_iload_n (show decode cX11_cell 4 = .ok (.iload_n 1, 1) by decide +kernel) rfl) rfl
    (sb_cons (pc2 := 6) (sx_iload_n (show decode cX11_cell 5 = .ok (.iload_n 2, 1) by decide +kernel) rfl) rfl
    (sb_cons (pc2 := 7) (sx_iload_n (show decode cX11_cell 6 = .ok (.iload_n 3, 1) by decide +kernel) rfl) rfl
    (sb_cons (pc2 := 10) (sx_cV (Y' := YX6_put) (q := (RX6, TX6, 3)) rfl (show decode cX11_cell 7 = .ok (.invokevirtual 293, 3) by decide +kernel) rfl rfl (px_w4 wd_661 wd_662 wd_663 wd_272) wd_660 ⟨by decide, by decide, by decide +kernel⟩ (by decide)) rfl
    (sb_cons (pc2 := 11) (sx_reti (show decode cX11_cell 10 = .ok (.ireturn, 1) by decide +kernel) rfl) rfl sb_nil)))))))
  ms_nil)
def kX11_none (X : px_X) : px_B := [(0, [], [px_aload 0, px_getf 11 7, px_iload 1, px_iload 2, px_cV X 74 3 6, px_reti], 10)]
set_option maxRecDepth 100000 in
set_option maxHeartbeats 8000000 in
theorem sX11_none (d : Nat) (X : px_X) : px_MS d X YX11_none (kX11_none X) :=
  (ms_cons
  (sb_cons (pc2 := 1) (sx_aload_n (show decode cX11_none 0 = .ok (.aload_n 0, 1) by decide +kernel) rfl) rfl
    (sb_cons (pc2 := 4) (sx_getf (show decode cX11_none 1 = .ok (.getfield 61, 3) by decide +kernel) rfl iX11 (by decide) wd_471) rfl
    (sb_cons (pc2 := 5) (sx_iload_n (show decode cX11_none 4 = .ok (.iload_n 1, 1) by decide +kernel) rfl) rfl
    (sb_cons (pc2 := 6) (sx_iload_n (show decode cX11_none 5 = .ok (.iload_n 2, 1) by decide +kernel) rfl) rfl
    (sb_cons (pc2 := 9) (sx_cV (Y' := YX6_wipe) (q := (RX6, TX6, 3)) rfl (show decode cX11_none 6 = .ok (.invokevirtual 296, 3) by decide +kernel) rfl rfl (px_w4 wd_665 wd_666 wd_667 wd_272) wd_664 ⟨by decide, by decide, by decide +kernel⟩ (by decide)) rfl
    (sb_cons (pc2 := 10) (sx_reti (show decode cX11_none 9 = .ok (.ireturn, 1) by decide +kernel) rfl) rfl sb_nil))))))
  ms_nil)
def kX11_taken (X : px_X) : px_B := [(0, [], [px_iload 2, px_if1 (fun x => decide (x < 0)) 10, px_iload 2, px_push (.int 6), px_if2 (fun x y => decide (x < y)) 13], 10),
  (10, [false, false, false, false], [px_push (.int (-2)), px_reti], 13),
  (13, [true, true, true, false], [px_aload 0, px_getf 11 1, px_iload 1, px_cV X 111 2 10, px_astore 3, px_aload 3, px_ifnonnull 29, px_push (.int (-11)), px_reti], 29),
  (29, [false, false, true, true], [px_aload 3, px_iload 2, px_cV X 24 2 2, px_if1 (fun x => decide (x = 0)) 44, px_aload 3, px_getf 2 1, px_goto 46], 44),
  (44, [false, false, false, false], [px_push (.int (-13))], 46),
  (46, [false, false, false, false], [px_reti], 47)]
set_option maxRecDepth 100000 in
set_option maxHeartbeats 8000000 in
theorem sX11_taken (d : Nat) (X : px_X) : px_MS d X YX11_taken (kX11_taken X) :=
  (ms_cons
  (sb_cons (pc2 := 1) (sx_iload_n (show decode cX11_taken 0 = .ok (.iload_n 2, 1) by decide +kernel) rfl) rfl
    (sb_cons (pc2 := 4) (sx_if_lt (show decode cX11_taken 1 = .ok (.ifCond .lt 9, 3) by decide +kernel) (by decide)) rfl
    (sb_cons (pc2 := 5) (sx_iload_n (show decode cX11_taken 4 = .ok (.iload_n 2, 1) by decide +kernel) rfl) rfl
    (sb_cons (pc2 := 7) (sx_bipush (show decode cX11_taken 5 = .ok (.bipush 6, 2) by decide +kernel) (by decide)) rfl
    (sb_cons (pc2 := 10) (sx_icmp_lt (show decode cX11_taken 7 = .ok (.if_icmp .lt 6, 3) by decide +kernel) (by decide)) rfl sb_nil)))))
  (ms_cons
  (sb_cons (pc2 := 12) (sx_bipush (show decode cX11_taken 10 = .ok (.bipush (-2), 2) by decide +kernel) (by decide)) rfl
    (sb_cons (pc2 := 13) (sx_reti (show decode cX11_taken 12 = .ok (.ireturn, 1) by decide +kernel) rfl) rfl sb_nil))
  (ms_cons
  (sb_cons (pc2 := 14) (sx_aload_n (show decode cX11_taken 13 = .ok (.aload_n 0, 1) by decide +kernel) rfl) rfl
    (sb_cons (pc2 := 17) (sx_getf (show decode cX11_taken 14 = .ok (.getfield 19, 3) by decide +kernel) rfl iX11 (by decide) wd_441) rfl
    (sb_cons (pc2 := 18) (sx_iload_n (show decode cX11_taken 17 = .ok (.iload_n 1, 1) by decide +kernel) rfl) rfl
    (sb_cons (pc2 := 21) (sx_cV (Y' := YX10_findAt) (q := (RX10, TX10, 5)) rfl (show decode cX11_taken 18 = .ok (.invokevirtual 126, 3) by decide +kernel) rfl rfl (px_w4 wd_522 wd_409 wd_410 wd_375) wd_407 ⟨by decide, by decide, by decide +kernel⟩ (by decide)) rfl
    (sb_cons (pc2 := 22) (sx_astore_n (show decode cX11_taken 21 = .ok (.astore_n 3, 1) by decide +kernel) rfl) rfl
    (sb_cons (pc2 := 23) (sx_aload_n (show decode cX11_taken 22 = .ok (.aload_n 3, 1) by decide +kernel) rfl) rfl
    (sb_cons (pc2 := 26) (sx_ifnonnull (show decode cX11_taken 23 = .ok (.ifnonnull 6, 3) by decide +kernel) (by decide)) rfl
    (sb_cons (pc2 := 28) (sx_bipush (show decode cX11_taken 26 = .ok (.bipush (-11), 2) by decide +kernel) (by decide)) rfl
    (sb_cons (pc2 := 29) (sx_reti (show decode cX11_taken 28 = .ok (.ireturn, 1) by decide +kernel) rfl) rfl sb_nil)))))))))
  (ms_cons
  (sb_cons (pc2 := 30) (sx_aload_n (show decode cX11_taken 29 = .ok (.aload_n 3, 1) by decide +kernel) rfl) rfl
    (sb_cons (pc2 := 31) (sx_iload_n (show decode cX11_taken 30 = .ok (.iload_n 2, 1) by decide +kernel) rfl) rfl
    (sb_cons (pc2 := 34) (sx_cV (Y' := YX2_isUnder) (q := (RX2, TX2, 9)) rfl (show decode cX11_taken 31 = .ok (.invokevirtual 299, 3) by decide +kernel) rfl rfl (px_w4 wd_668 wd_429 wd_430 wd_100) wd_427 ⟨by decide, by decide, by decide +kernel⟩ (by decide)) rfl
    (sb_cons (pc2 := 37) (sx_if_eq (show decode cX11_taken 34 = .ok (.ifCond .eq 10, 3) by decide +kernel) (by decide)) rfl
    (sb_cons (pc2 := 38) (sx_aload_n (show decode cX11_taken 37 = .ok (.aload_n 3, 1) by decide +kernel) rfl) rfl
    (sb_cons (pc2 := 41) (sx_getf (show decode cX11_taken 38 = .ok (.getfield 302, 3) by decide +kernel) rfl iX2 (by decide) wd_669) rfl
    (sb_cons (pc2 := 44) (px_snd_goto (show decode cX11_taken 41 = .ok (.goto 5, 3) by decide +kernel) (by decide)) rfl sb_nil)))))))
  (ms_cons
  (sb_cons (pc2 := 46) (sx_bipush (show decode cX11_taken 44 = .ok (.bipush (-13), 2) by decide +kernel) (by decide)) rfl sb_nil)
  (ms_cons
  (sb_cons (pc2 := 47) (sx_reti (show decode cX11_taken 46 = .ok (.ireturn, 1) by decide +kernel) rfl) rfl sb_nil)
  ms_nil))))))
