/-! the code of methods as pure instructions (written by wip/whole/gen.py) -/
def kX1_init (X : px_X) : px_B := [(0, [], [px_aload 0, px_pop, px_aload 0, px_push (.int 0), px_puti 1 0, px_aload 0, px_push (.int 0), px_puti 1 1, px_aload 0, px_push (.int 0), px_puti 1 2, px_aload 0, px_push (.int 8), px_newi 0, px_putr 1 3, px_aload 0, px_push (.int 8), px_newi 0, px_putr 1 4, px_aload 0, px_push (.int 8), px_newi 0, px_putr 1 5, px_aload 0, px_push (.int 40), px_newr 4, px_putr 1 6, px_retv], 53)]
set_option maxRecDepth 100000 in
set_option maxHeartbeats 8000000 in
theorem sX1_init (d : Nat) (X : px_X) : px_MS d X YX1_init (kX1_init X) :=
  (ms_cons
  (sb_cons (pc2 := 1) (sx_aload_n (show decode cX1_init 0 = .ok (.aload_n 0, 1) by decide +kernel) rfl) rfl
    (sb_cons (pc2 := 4) (sx_pop (show decode cX1_init 1 = .ok (.invokespecial 3, 3) by decide +kernel) wd_13 wd_1 wd_2) rfl
    (sb_cons (pc2 := 5) (sx_aload_n (show decode cX1_init 4 = .ok (.aload_n 0, 1) by decide +kernel) rfl) rfl
    (sb_cons (pc2 := 6) (sx_iconst (show decode cX1_init 5 = .ok (.iconst 0, 1) by decide +kernel) (by decide)) rfl
    (sb_cons (pc2 := 9) (sx_puti (show decode cX1_init 6 = .ok (.putfield 9, 3) by decide +kernel) rfl iX1 tyX1_ok nmX1 (by decide) wd_14 rfl (Or.inl rfl)) rfl
    (sb_cons (pc2 := 10) (sx_aload_n (show decode cX1_init 9 = .ok (.aload_n 0, 1) by decide +kernel) rfl) rfl
    (sb_cons (pc2 := 11) (sx_iconst (show decode cX1_init 10 = .ok (.iconst 0, 1) by decide +kernel) (by decide)) rfl
    (sb_cons (pc2 := 14) (sx_puti (show decode cX1_init 11 = .ok (.putfield 15, 3) by decide +kernel) rfl iX1 tyX1_ok nmX1 (by decide) wd_15 rfl (Or.inl rfl)) rfl
    (sb_cons (pc2 := 15) (sx_aload_n (show decode cX1_init 14 = .ok (.aload_n 0, 1) by decide +kernel) rfl) rfl
    (sb_cons (pc2 := 16) (sx_iconst (show decode cX1_init 15 = .ok (.iconst 0, 1) by decide +kernel) (by decide)) rfl
    (sb_cons (pc2 := 19) (sx_puti (show decode cX1_init 16 = .ok (.putfield 18, 3) by decide +kernel) rfl iX1 tyX1_ok nmX1 (by decide) wd_16 rfl (Or.inl rfl)) rfl
    (sb_cons (pc2 := 20) (sx_aload_n (show decode cX1_init 19 = .ok (.aload_n 0, 1) by decide +kernel) rfl) rfl
    (sb_cons (pc2 := 22) (sx_bipush (show decode cX1_init 20 = .ok (.bipush 8, 2) by decide +kernel) (by decide)) rfl
    (sb_cons (pc2 := 24) (sx_newi (t := 0) (show decode cX1_init 22 = .ok (.newarray .int, 2) by decide +kernel) rfl (fun _ => rfl) (Or.inl rfl) wd_17) rfl
    (sb_cons (pc2 := 27) (sx_putr (show decode cX1_init 24 = .ok (.putfield 21, 3) by decide +kernel) rfl iX1 tyX1_ok nmX1 (by decide) wd_18 (Or.inr ⟨_, rfl⟩) (Or.inr ⟨rfl, rfl, rfl⟩)) rfl
    (sb_cons (pc2 := 28) (sx_aload_n (show decode cX1_init 27 = .ok (.aload_n 0, 1) by decide +kernel) rfl) rfl
    (sb_cons (pc2 := 30) (sx_bipush (show decode cX1_init 28 = .ok (.bipush 8, 2) by decide +kernel) (by decide)) rfl
    (sb_cons (pc2 := 32) (sx_newi (t := 0) (show decode cX1_init 30 = .ok (.newarray .int, 2) by decide +kernel) rfl (fun _ => rfl) (Or.inl rfl) wd_17) rfl
    (sb_cons (pc2 := 35) (sx_putr (show decode cX1_init 32 = .ok (.putfield 25, 3) by decide +kernel) rfl iX1 tyX1_ok nmX1 (by decide) wd_19 (Or.inr ⟨_, rfl⟩) (Or.inr ⟨rfl, rfl, rfl⟩)) rfl
    (sb_cons (pc2 := 36) (sx_aload_n (show decode cX1_init 35 = .ok (.aload_n 0, 1) by decide +kernel) rfl) rfl
    (sb_cons (pc2 := 38) (sx_bipush (show decode cX1_init 36 = .ok (.bipush 8, 2) by decide +kernel) (by decide)) rfl
    (sb_cons (pc2 := 40) (sx_newi (t := 0) (show decode cX1_init 38 = .ok (.newarray .int, 2) by decide +kernel) rfl (fun _ => rfl) (Or.inl rfl) wd_17) rfl
    (sb_cons (pc2 := 43) (sx_putr (show decode cX1_init 40 = .ok (.putfield 28, 3) by decide +kernel) rfl iX1 tyX1_ok nmX1 (by decide) wd_20 (Or.inr ⟨_, rfl⟩) (Or.inr ⟨rfl, rfl, rfl⟩)) rfl
    (sb_cons (pc2 := 44) (sx_aload_n (show decode cX1_init 43 = .ok (.aload_n 0, 1) by decide +kernel) rfl) rfl
    (sb_cons (pc2 := 46) (sx_bipush (show decode cX1_init 44 = .ok (.bipush 40, 2) by decide +kernel) (by decide)) rfl
    (sb_cons (pc2 := 49) (sx_newr (t := 4) (show decode cX1_init 46 = .ok (.anewarray 31, 3) by decide +kernel) (fun _ => rfl) wd_21 (fun _ _ _ h => h.2.2.2.2.2.2.2.2.2.2.2.1)) rfl
    (sb_cons (pc2 := 52) (sx_putr (show decode cX1_init 49 = .ok (.putfield 33, 3) by decide +kernel) rfl iX1 tyX1_ok nmX1 (by decide) wd_22 (Or.inr ⟨_, rfl⟩) (Or.inr ⟨rfl, rfl, rfl⟩)) rfl
    (sb_cons (pc2 := 53) (sx_retv (show decode cX1_init 52 = .ok (.return_, 1) by decide +kernel) rfl) rfl sb_nil))))))))))))))))))))))))))))
  ms_nil)
def kX1_addDiver (X : px_X) : px_B := [(0, [], [px_aload 0, px_getf 1 0, px_push (.int 6), px_if2 (fun x y => decide (x < y)) 12, px_push (.int (-4)), px_reti], 12),
  (12, [true], [px_aload 0, px_dup, px_getf 1 0, px_push (.int 1), (px_i2 fun x y => x + y), px_puti 1 0, px_aload 0, px_getf 1 0, px_push (.int 1), (px_i2 fun x y => x - y), px_reti], 29)]
set_option maxRecDepth 100000 in
set_option maxHeartbeats 8000000 in
theorem sX1_addDiver (d : Nat) (X : px_X) : px_MS d X YX1_addDiver (kX1_addDiver X) :=
  (ms_cons
  (sb_cons (pc2 := 1) (sx_aload_n (show decode cX1_addDiver 0 = .ok (.aload_n 0, 1) by decide +kernel) rfl) rfl
    (sb_cons (pc2 := 4) (sx_getf (show decode cX1_addDiver 1 = .ok (.getfield 9, 3) by decide +kernel) rfl iX1 (by decide) wd_14) rfl
    (sb_cons (pc2 := 6) (sx_bipush (show decode cX1_addDiver 4 = .ok (.bipush 6, 2) by decide +kernel) (by decide)) rfl
    (sb_cons (pc2 := 9) (sx_icmp_lt (show decode cX1_addDiver 6 = .ok (.if_icmp .lt 6, 3) by decide +kernel) (by decide)) rfl
    (sb_cons (pc2 := 11) (sx_bipush (show decode cX1_addDiver 9 = .ok (.bipush (-4), 2) by decide +kernel) (by decide)) rfl
    (sb_cons (pc2 := 12) (sx_reti (show decode cX1_addDiver 11 = .ok (.ireturn, 1) by decide +kernel) rfl) rfl sb_nil))))))
  (ms_cons
  (sb_cons (pc2 := 13) (sx_aload_n (show decode cX1_addDiver 12 = .ok (.aload_n 0, 1) by decide +kernel) rfl) rfl
    (sb_cons (pc2 := 14) (sx_dup (show decode cX1_addDiver 13 = .ok (.dup, 1) by decide +kernel)) rfl
    (sb_cons (pc2 := 17) (sx_getf (show decode cX1_addDiver 14 = .ok (.getfield 9, 3) by decide +kernel) rfl iX1 (by decide) wd_14) rfl
    (sb_cons (pc2 := 18) (sx_iconst (show decode cX1_addDiver 17 = .ok (.iconst 1, 1) by decide +kernel) (by decide)) rfl
    (sb_cons (pc2 := 19) (sx_iadd (show decode cX1_addDiver 18 = .ok (.iadd, 1) by decide +kernel)) rfl
    (sb_cons (pc2 := 22) (sx_puti (show decode cX1_addDiver 19 = .ok (.putfield 9, 3) by decide +kernel) rfl iX1 tyX1_ok nmX1 (by decide) wd_14 rfl (Or.inl rfl)) rfl
    (sb_cons (pc2 := 23) (sx_aload_n (show decode cX1_addDiver 22 = .ok (.aload_n 0, 1) by decide +kernel) rfl) rfl
    (sb_cons (pc2 := 26) (sx_getf (show decode cX1_addDiver 23 = .ok (.getfield 9, 3) by decide +kernel) rfl iX1 (by decide) wd_14) rfl
    (sb_cons (pc2 := 27) (sx_iconst (show decode cX1_addDiver 26 = .ok (.iconst 1, 1) by decide +kernel) (by decide)) rfl
    (sb_cons (pc2 := 28) (sx_isub (show decode cX1_addDiver 27 = .ok (.isub, 1) by decide +kernel)) rfl
    (sb_cons (pc2 := 29) (sx_reti (show decode cX1_addDiver 28 = .ok (.ireturn, 1) by decide +kernel) rfl) rfl sb_nil)))))))))))
  ms_nil))
def kX1_hasDiver (X : px_X) : px_B := [(0, [], [px_iload 1, px_if1 (fun x => decide (x < 0)) 16, px_iload 1, px_aload 0, px_getf 1 0, px_if2 (fun x y => decide (y ≤ x)) 16, px_push (.int 1), px_goto 17], 16),
  (16, [false, false], [px_push (.int 0)], 17),
  (17, [false, false], [px_retz], 18)]
set_option maxRecDepth 100000 in
set_option maxHeartbeats 8000000 in
theorem sX1_hasDiver (d : Nat) (X : px_X) : px_MS d X YX1_hasDiver (kX1_hasDiver X) :=
  (ms_cons
  (sb_cons (pc2 := 1) (sx_iload_n (show decode cX1_hasDiver 0 = .ok (.iload_n 1, 1) by decide +kernel) rfl) rfl
    (sb_cons (pc2 := 4) (sx_if_lt (show decode cX1_hasDiver 1 = .ok (.ifCond .lt 15, 3) by decide +kernel) (by decide)) rfl
    (sb_cons (pc2 := 5) (sx_iload_n (show decode cX1_hasDiver 4 = .ok (.iload_n 1, 1) by decide +kernel) rfl) rfl
    (sb_cons (pc2 := 6) (sx_aload_n (show decode cX1_hasDiver 5 = .ok (.aload_n 0, 1) by decide +kernel) rfl) rfl
    (sb_cons (pc2 := 9) (sx_getf (show decode cX1_hasDiver 6 = .ok (.getfield 9, 3) by decide +kernel) rfl iX1 (by decide) wd_14) rfl
    (sb_cons (pc2 := 12) (sx_icmp_ge (show decode cX1_hasDiver 9 = .ok (.if_icmp .ge 7, 3) by decide +kernel) (by decide)) rfl
    (sb_cons (pc2 := 13) (sx_iconst (show decode cX1_hasDiver 12 = .ok (.iconst 1, 1) by decide +kernel) (by decide)) rfl
    (sb_cons (pc2 := 16) (px_snd_goto (show decode cX1_hasDiver 13 = .ok (.goto 4, 3) by decide +kernel) (by decide)) rfl sb_nil))))))))
  (ms_cons
  (sb_cons (pc2 := 17) (sx_iconst (show decode cX1_hasDiver 16 = .ok (.iconst 0, 1) by decide +kernel) (by decide)) rfl sb_nil)
  (ms_cons
  (sb_cons (pc2 := 18) (sx_retz (show decode cX1_hasDiver 17 = .ok (.ireturn, 1) by decide +kernel) rfl) rfl sb_nil)
  ms_nil)))
def kX1_putRow (X : px_X) : px_B := [(0, [], [px_iload 1, px_push (.int 1), px_if2 (fun x y => decide (x < y)) 35, px_iload 1, px_push (.int 90), px_if2 (fun x y => decide (y < x)) 35, px_iload 2, px_push (.int 1), px_if2 (fun x y => decide (x < y)) 35, px_iload 2, px_push (.int 200), px_if2 (fun x y => decide (y < x)) 35, px_iload 3, px_push (.int 1), px_if2 (fun x y => decide (x < y)) 35, px_iload 3, px_push (.int 1440), px_if2 (fun x y => decide (x ≤ y)) 38], 35),
  (35, [false, false, false, false, false], [px_push (.int (-2)), px_reti], 38),
  (38, [true, true, true, true, false], [px_aload 0, px_iload 1, px_cV X 8 2 1, px_istore 4, px_iload 4, px_aload 0, px_getf 1 1, px_if2 (fun x y => decide (x = y)) 65, px_aload 0, px_getf 1 3, px_iload 4, px_iald 0, px_iload 1, px_if2 (fun x y => decide (x = y)) 83], 65),
  (65, [true, true, true, true, true], [px_aload 0, px_getf 1 1, px_push (.int 8), px_if2 (fun x y => decide (x < y)) 77, px_push (.int (-4)), px_reti], 77),
  (77, [true, true, true, true, true], [px_aload 0, px_iload 4, px_cV X 9 2 1], 83),
  (83, [true, true, true, true, true], [px_aload 0, px_getf 1 3, px_iload 4, px_iload 1, px_iast 0, px_aload 0, px_getf 1 4, px_iload 4, px_iload 2, px_iast 0, px_aload 0, px_getf 1 5, px_iload 4, px_iload 3, px_iast 0, px_aload 0, px_getf 1 1, px_reti], 112)]
set_option maxRecDepth 100000 in
set_option maxHeartbeats 8000000 in
theorem sX1_putRow (d : Nat) (X : px_X) : px_MS d X YX1_putRow (kX1_putRow X) :=
  (ms_cons
  (sb_cons (pc2 := 1) (sx_iload_n (show decode cX1_putRow 0 = .ok (.iload_n 1, 1) by decide +kernel) rfl) rfl
    (sb_cons (pc2 := 2) (sx_iconst (show decode cX1_putRow 1 = .ok (.iconst 1, 1) by decide +kernel) (by decide)) rfl
    (sb_cons (pc2 := 5) (sx_icmp_lt (show decode cX1_putRow 2 = .ok (.if_icmp .lt 33, 3) by decide +kernel) (by decide)) rfl
    (sb_cons (pc2 := 6) (sx_iload_n (show decode cX1_putRow 5 = .ok (.iload_n 1, 1) by decide +kernel) rfl) rfl
    (sb_cons (pc2 := 8) (sx_bipush (show decode cX1_putRow 6 = .ok (.bipush 90, 2) by decide +kernel) (by decide)) rfl
    (sb_cons (pc2 := 11) (sx_icmp_gt (show decode cX1_putRow 8 = .ok (.if_icmp .gt 27, 3) by decide +kernel) (by decide)) rfl
    (sb_cons (pc2 := 12) (sx_iload_n (show decode cX1_putRow 11 = .ok (.iload_n 2, 1) by decide +kernel) rfl) rfl
    (sb_cons (pc2 := 13) (sx_iconst (show decode cX1_putRow 12 = .ok (.iconst 1, 1) by decide +kernel) (by decide)) rfl
    (sb_cons (pc2 := 16) (sx_icmp_lt (show decode cX1_putRow 13 = .ok (.if_icmp .lt 22, 3) by decide +kernel) (by decide)) rfl
    (sb_cons (pc2 := 17) (sx_iload_n (show decode cX1_putRow 16 = .ok (.iload_n 2, 1) by decide +kernel) rfl) rfl
    (sb_cons (pc2 := 20) (sx_sipush (show decode cX1_putRow 17 = .ok (.sipush 200, 3) by decide +kernel) (by decide)) rfl
    (sb_cons (pc2 := 23) (sx_icmp_gt (show decode cX1_putRow 20 = .ok (.if_icmp .gt 15, 3) by decide +kernel) (by decide)) rfl
    (sb_cons (pc2 := 24) (sx_iload_n (show decode cX1_putRow 23 = .ok (.iload_n 3, 1) by decide +kernel) rfl) rfl
    (sb_cons (pc2 := 25) (sx_iconst (show decode cX1_putRow 24 = .ok (.iconst 1, 1) by decide +kernel) (by decide)) rfl
    (sb_cons (pc2 := 28) (sx_icmp_lt (show decode cX1_putRow 25 = .ok (.if_icmp .lt 10, 3) by decide +kernel) (by decide)) rfl
    (sb_cons (pc2 := 29) (sx_iload_n (show decode cX1_putRow 28 = .ok (.iload_n 3, 1) by decide +kernel) rfl) rfl
    (sb_cons (pc2 := 32) (sx_sipush (show decode cX1_putRow 29 = .ok (.sipush 1440, 3) by decide +kernel) (by decide)) rfl
    (sb_cons (pc2 := 35) (sx_icmp_le (show decode cX1_putRow 32 = .ok (.if_icmp .le 6, 3) by decide +kernel) (by decide)) rfl sb_nil))))))))))))))))))
  (ms_cons
  (sb_cons (pc2 := 37) (sx_bipush (show decode cX1_putRow 35 = .ok (.bipush (-2), 2) by decide +kernel) (by decide)) rfl
    (sb_cons (pc2 := 38) (sx_reti (show decode cX1_putRow 37 = .ok (.ireturn, 1) by decide +kernel) rfl) rfl sb_nil))
  (ms_cons
  (sb_cons (pc2 := 39) (sx_aload_n (show decode cX1_putRow 38 = .ok (.aload_n 0, 1) by decide +kernel) rfl) rfl
    (sb_cons (pc2 := 40) (sx_iload_n (show decode cX1_putRow 39 = .ok (.iload_n 1, 1) by decide +kernel) rfl) rfl
    (sb_cons (pc2 := 43) (sx_cV (Y' := YX1_firstRowFrom) (q := (RX1, TX1, 7)) rfl (show decode cX1_putRow 40 = .ok (.invokevirtual 37, 3) by decide +kernel) rfl rfl (px_w4 wd_24 wd_25 wd_26 wd_27) wd_23 ⟨by decide, by decide, by decide +kernel⟩ (by decide)) rfl
    (sb_cons (pc2 := 45) (sx_istore (show decode cX1_putRow 43 = .ok (.istore 4, 2) by decide +kernel)) rfl
    (sb_cons (pc2 := 47) (sx_iload (show decode cX1_putRow 45 = .ok (.iload 4, 2) by decide +kernel)) rfl
    (sb_cons (pc2 := 48) (sx_aload_n (show decode cX1_putRow 47 = .ok (.aload_n 0, 1) by decide +kernel) rfl) rfl
    (sb_cons (pc2 := 51) (sx_getf (show decode cX1_putRow 48 = .ok (.getfield 15, 3) by decide +kernel) rfl iX1 (by decide) wd_15) rfl
    (sb_cons (pc2 := 54) (sx_icmp_eq (show decode cX1_putRow 51 = .ok (.if_icmp .eq 14, 3) by decide +kernel) (by decide)) rfl
    (sb_cons (pc2 := 55) (sx_aload_n (show decode cX1_putRow 54 = .ok (.aload_n 0, 1) by decide +kernel) rfl) rfl
    (sb_cons (pc2 := 58) (sx_getf (show decode cX1_putRow 55 = .ok (.getfield 21, 3) by decide +kernel) rfl iX1 (by decide) wd_18) rfl
    (sb_cons (pc2 := 60) (sx_iload (show decode cX1_putRow 58 = .ok (.iload 4, 2) by decide +kernel)) rfl
    (sb_cons (pc2 := 61) (sx_iald (show decode cX1_putRow 60 = .ok (.iaload, 1) by decide +kernel)) rfl
    (sb_cons (pc2 := 62) (sx_iload_n (show decode cX1_putRow 61 = .ok (.iload_n 1, 1) by decide +kernel) rfl) rfl
    (sb_cons (pc2 := 65) (sx_icmp_eq (show decode cX1_putRow 62 = .ok (.if_icmp .eq 21, 3) by decide +kernel) (by decide)) rfl sb_nil))))))))))))))
  (ms_cons
  (sb_cons (pc2 := 66) (sx_aload_n (show decode cX1_putRow 65 = .ok (.aload_n 0, 1) by decide +kernel) rfl) rfl
    (sb_cons (pc2 := 69) (sx_getf (show decode cX1_putRow 66 = .ok (.getfield 15, 3) by decide +kernel) rfl iX1 (by decide) wd_15) rfl
    (sb_cons (pc2 := 71) (sx_bipush (show decode cX1_putRow 69 = .ok (.bipush 8, 2) by decide +kernel) (by decide)) rfl
    (sb_cons (pc2 := 74) (sx_icmp_lt (show decode cX1_putRow 71 = .ok (.if_icmp .lt 6, 3) by decide +kernel) (by decide)) rfl
    (sb_cons (pc2 := 76) (sx_bipush (show decode cX1_putRow 74 = .ok (.bipush (-4), 2) by decide +kernel) (by decide)) rfl
    (sb_cons (pc2 := 77) (sx_reti (show decode cX1_putRow 76 = .ok (.ireturn, 1) by decide +kernel) rfl) rfl sb_nil))))))
  (ms_cons
  (sb_cons (pc2 := 78) (sx_aload_n (show decode cX1_putRow 77 = .ok (.aload_n 0, 1) by decide +kernel) rfl) rfl
    (sb_cons (pc2 := 80) (sx_iload (show decode cX1_putRow 78 = .ok (.iload 4, 2) by decide +kernel)) rfl
    (sb_cons (pc2 := 83) (sx_cV (Y' := YX1_openRow) (q := (RX1, TX1, 7)) rfl (show decode cX1_putRow 80 = .ok (.invokevirtual 41, 3) by decide +kernel) rfl rfl (px_w4 wd_29 wd_30 wd_31 wd_27) wd_28 ⟨by decide, by decide, by decide +kernel⟩ (by decide)) rfl sb_nil)))
  (ms_cons
  (sb_cons (pc2 := 84) (sx_aload_n (show decode cX1_putRow 83 = .ok (.aload_n 0, 1) by decide +kernel) rfl) rfl
    (sb_cons (pc2 := 87) (sx_getf (show decode cX1_putRow 84 = .ok (.getfield 21, 3) by decide +kernel) rfl iX1 (by decide) wd_18) rfl
    (sb_cons (pc2 := 89) (sx_iload (show decode cX1_putRow 87 = .ok (.iload 4, 2) by decide +kernel)) rfl
    (sb_cons (pc2 := 90) (sx_iload_n (show decode cX1_putRow 89 = .ok (.iload_n 1, 1) by decide +kernel) rfl) rfl
    (sb_cons (pc2 := 91) (sx_iast (show decode cX1_putRow 90 = .ok (.iastore, 1) by decide +kernel)) rfl
    (sb_cons (pc2 := 92) (sx_aload_n (show decode cX1_putRow 91 = .ok (.aload_n 0, 1) by decide +kernel) rfl) rfl
    (sb_cons (pc2 := 95) (sx_getf (show decode cX1_putRow 92 = .ok (.getfield 25, 3) by decide +kernel) rfl iX1 (by decide) wd_19) rfl
    (sb_cons (pc2 := 97) (sx_iload (show decode cX1_putRow 95 = .ok (.iload 4, 2) by decide +kernel)) rfl
    (sb_cons (pc2 := 98) (sx_iload_n (show decode cX1_putRow 97 = .ok (.iload_n 2, 1) by decide +kernel) rfl) rfl
    (sb_cons (pc2 := 99) (sx_iast (show decode cX1_putRow 98 = .ok (.iastore, 1) by decide +kernel)) rfl
    (sb_cons (pc2 := 100) (sx_aload_n (show decode cX1_putRow 99 = .ok (.aload_n 0, 1) by decide +kernel) rfl) rfl
    (sb_cons (pc2 := 103) (sx_getf (show decode cX1_putRow 100 = .ok (.getfield 28, 3) by decide +kernel) rfl iX1 (by decide) wd_20) rfl
    (sb_cons (pc2 := 105) (sx_iload (show decode cX1_putRow 103 = .ok (.iload 4, 2) by decide +kernel)) rfl
    (sb_cons (pc2 := 106) (sx_iload_n (show decode cX1_putRow 105 = .ok (.iload_n 3, 1) by decide +kernel) rfl) rfl
    (sb_cons (pc2 := 107) (sx_iast (show decode cX1_putRow 106 = .ok (.iastore, 1) by decide +kernel)) rfl
    (sb_cons (pc2 := 108) (sx_aload_n (show decode cX1_putRow 107 = .ok (.aload_n 0, 1) by decide +kernel) rfl) rfl
    (sb_cons (pc2 := 111) (sx_getf (show decode cX1_putRow 108 = .ok (.getfield 15, 3) by decide +kernel) rfl iX1 (by decide) wd_15) rfl
    (sb_cons (pc2 := 112) (sx_reti (show decode cX1_putRow 111 = .ok (.ireturn, 1) by decide +kernel) rfl) rfl sb_nil))))))))))))))))))
  ms_nil))))))
def kX1_firstRowFrom (X : px_X) : px_B := [(0, [], [px_push (.int 0), px_istore 2], 2),
  (2, [true, true, true], [px_iload 2, px_aload 0, px_getf 1 1, px_if2 (fun x y => decide (y ≤ x)) 26, px_aload 0, px_getf 1 3, px_iload 2, px_iald 0, px_iload 1, px_if2 (fun x y => decide (y ≤ x)) 26, px_iinc 2 1, px_goto 2], 26),
  (26, [false, false, true], [px_iload 2, px_reti], 28)]
set_option maxRecDepth 100000 in
set_option maxHeartbeats 8000000 in
theorem sX1_firstRowFrom (d : Nat) (X : px_X) : px_MS d X YX1_firstRowFrom (kX1_firstRowFrom X) :=
  (ms_cons
  (sb_cons (pc2 := 1) (sx_iconst (show decode cX1_firstRowFrom 0 = .ok (.iconst 0, 1) by decide +kernel) (by decide)) rfl
    (sb_cons (pc2 := 2) (sx_istore_n (show decode cX1_firstRowFrom 1 = .ok (.istore_n 2, 1) by decide +kernel) rfl) rfl sb_nil))
  (ms_cons
  (sb_cons (pc2 := 3) (sx_iload_n (show decode cX1_firstRowFrom 2 = .ok (.iload_n 2, 1) by decide +kernel) rfl) rfl
    (sb_cons (pc2 := 4) (sx_aload_n (show decode cX1_firstRowFrom 3 = .ok (.aload_n 0, 1) by decide +kernel) rfl) rfl
    (sb_cons (pc2 := 7) (sx_getf (show decode cX1_firstRowFrom 4 = .ok (.getfield 15, 3) by decide +kernel) rfl iX1 (by decide) wd_15) rfl
    (sb_cons (pc2 := 10) (sx_icmp_ge (show decode cX1_firstRowFrom 7 = .ok (.if_icmp .ge 19, 3) by decide +kernel) (by decide)) rfl
    (sb_cons (pc2 := 11) (sx_aload_n (show decode cX1_firstRowFrom 10 = .ok (.aload_n 0, 1) by decide +kernel) rfl) rfl
    (sb_cons (pc2 := 14) (sx_getf (show decode cX1_firstRowFrom 11 = .ok (.getfield 21, 3) by decide +kernel) rfl iX1 (by decide) wd_18) rfl
    (sb_cons (pc2 := 15) (sx_iload_n (show decode cX1_firstRowFrom 14 = .ok (.iload_n 2, 1) by decide +kernel) rfl) rfl
    (sb_cons (pc2 := 16) (sx_iald (show decode cX1_firstRowFrom 15 = .ok (.iaload, 1) by decide +kernel)) rfl
    (sb_cons (pc2 := 17) (sx_iload_n (show decode cX1_firstRowFrom 16 = .ok (.iload_n 1, 1) by decide +kernel) rfl) rfl
    (sb_cons (pc2 := 20) (sx_icmp_ge (show decode cX1_firstRowFrom 17 = .ok (.if_icmp .ge 9, 3) by decide +kernel) (by decide)) rfl
    (sb_cons (pc2 := 23) (sx_iinc (show decode cX1_firstRowFrom 20 = .ok (.iinc 2 1, 3) by decide +kernel) (by decide)) rfl
    (sb_cons (pc2 := 26) (px_snd_goto (show decode cX1_firstRowFrom 23 = .ok (.goto (-21), 3) by decide +kernel) (by decide)) rfl sb_nil))))))))))))
  (ms_cons
  (sb_cons (pc2 := 27) (sx_iload_n (show decode cX1_firstRowFrom 26 = .ok (.iload_n 2, 1) by decide +kernel) rfl) rfl
    (sb_cons (pc2 := 28) (sx_reti (show decode cX1_firstRowFrom 27 = .ok (.ireturn, 1) by decide +kernel) rfl) rfl sb_nil))
  ms_nil)))
def kX1_openRow (X : px_X) : px_B := [(0, [], [px_aload 0, px_getf 1 1, px_istore 2], 5),
  (5, [true, true, true], [px_iload 2, px_iload 1, px_if2 (fun x y => decide (x ≤ y)) 58, px_aload 0, px_getf 1 3, px_iload 2, px_aload 0, px_getf 1 3, px_iload 2, px_push (.int 1), (px_i2 fun x y => x - y), px_iald 0, px_iast 0, px_aload 0, px_getf 1 4, px_iload 2, px_aload 0, px_getf 1 4, px_iload 2, px_push (.int 1), (px_i2 fun x y => x - y), px_iald 0, px_iast 0, px_aload 0, px_getf 1 5, px_iload 2, px_aload 0, px_getf 1 5, px_iload 2, px_push (.int 1), (px_i2 fun x y => x - y), px_iald 0, px_iast 0, px_iinc 2 (-1), px_goto 5], 58),
  (58, [true, false, false], [px_aload 0, px_dup, px_getf 1 1, px_push (.int 1), (px_i2 fun x y => x + y), px_puti 1 1, px_retv], 69)]
set_option maxRecDepth 100000 in
set_option maxHeartbeats 8000000 in
theorem sX1_openRow (d : Nat) (X : px_X) : px_MS d X YX1_openRow (kX1_openRow X) :=
  (ms_cons
  (sb_cons (pc2 := 1) (sx_aload_n (show decode cX1_openRow 0 = .ok (.aload_n 0, 1) by decide +kernel) rfl) rfl
    (sb_cons (pc2 := 4) (sx_getf (show decode cX1_openRow 1 = .ok (.getfield 15, 3) by decide +kernel) rfl iX1 (by decide) wd_15) rfl
    (sb_cons (pc2 := 5) (sx_istore_n (show decode cX1_openRow 4 = .ok (.istore_n 2, 1) by decide +kernel) rfl) rfl sb_nil)))
  (ms_cons
  (sb_cons (pc2 := 6) (sx_iload_n (show decode cX1_openRow 5 = .ok (.iload_n 2, 1) by decide +kernel) rfl) rfl
    (sb_cons (pc2 := 7) (sx_iload_n (show decode cX1_openRow 6 = .ok (.iload_n 1, 1) by decide +kernel) rfl) rfl
    (sb_cons (pc2 := 10) (sx_icmp_le (show decode cX1_openRow 7 = .ok (.if_icmp .le 51, 3) by decide +kernel) (by decide)) rfl
    (sb_cons (pc2 := 11) (sx_aload_n (show decode cX1_openRow 10 = .ok (.aload_n 0, 1) by decide +kernel) rfl) rfl
    (sb_cons (pc2 := 14) (sx_getf (show decode cX1_openRow 11 = .ok (.getfield 21, 3) by decide +kernel) rfl iX1 (by decide) wd_18) rfl
    (sb_cons (pc2 := 15) (sx_iload_n (show decode cX1_openRow 14 = .ok (.iload_n 2, 1) by decide +kernel) rfl) rfl
    (sb_cons (pc2 := 16) (sx_aload_n (show decode cX1_openRow 15 = .ok (.aload_n 0, 1) by decide +kernel) rfl) rfl
    (sb_cons (pc2 := 19) (sx_getf (show decode cX1_openRow 16 = .ok (.getfield 21, 3) by decide +kernel) rfl iX1 (by decide) wd_18) rfl
    (sb_cons (pc2 := 20) (sx_iload_n (show decode cX1_openRow 19 = .ok (.iload_n 2, 1) by decide +kernel) rfl) rfl
    (sb_cons (pc2 := 21) (sx_iconst (show decode cX1_openRow 20 = .ok (.iconst 1, 1) by decide +kernel) (by decide)) rfl
    (sb_cons (pc2 := 22) (sx_isub (show decode cX1_openRow 21 = .ok (.isub, 1) by decide +kernel)) rfl
    (sb_cons (pc2 := 23) (sx_iald (show decode cX1_openRow 22 = .ok (.iaload, 1) by decide +kernel)) rfl
    (sb_cons (pc2 := 24) (sx_iast (show decode cX1_openRow 23 = .ok (.iastore, 1) by decide +kernel)) rfl
    (sb_cons (pc2 := 25) (sx_aload_n (show decode cX1_openRow 24 = .ok (.aload_n 0, 1) by decide +kernel) rfl) rfl
    (sb_cons (pc2 := 28) (sx_getf (show decode cX1_openRow 25 = .ok (.getfield 25, 3) by decide +kernel) rfl iX1 (by decide) wd_19) rfl
    (sb_cons (pc2 := 29) (sx_iload_n (show decode cX1_openRow 28 = .ok (.iload_n 2, 1) by decide +kernel) rfl) rfl
    (sb_cons (pc2 := 30) (sx_aload_n (show decode cX1_openRow 29 = .ok (.aload_n 0, 1) by decide +kernel) rfl) rfl
    (sb_cons (pc2 := 33) (sx_getf (show decode cX1_openRow 30 = .ok (.getfield 25, 3) by decide +kernel) rfl iX1 (by decide) wd_19) rfl
    (sb_cons (pc2 := 34) (sx_iload_n (show decode cX1_openRow 33 = .ok (.iload_n 2, 1) by decide +kernel) rfl) rfl
    (sb_cons (pc2 := 35) (sx_iconst (show decode cX1_openRow 34 = .ok (.iconst 1, 1) by decide +kernel) (by decide)) rfl
    (sb_cons (pc2 := 36) (sx_isub (show decode cX1_openRow 35 = .ok (.isub, 1) by decide +kernel)) rfl
    (sb_cons (pc2 := 37) (sx_iald (show decode cX1_openRow 36 = .ok (.iaload, 1) by decide +kernel)) rfl
    (sb_cons (pc2 := 38) (sx_iast (show decode cX1_openRow 37 = .ok (.iastore, 1) by decide +kernel)) rfl
    (sb_cons (pc2 := 39) (sx_aload_n (show decode cX1_openRow 38 = .ok (.aload_n 0, 1) by decide +kernel) rfl) rfl
    (sb_cons (pc2 := 42) (sx_getf (show decode cX1_openRow 39 = .ok (.getfield 28, 3) by decide +kernel) rfl iX1 (by decide) wd_20) rfl
    (sb_cons (pc2 := 43) (sx_iload_n (show decode cX1_openRow 42 = .ok (.iload_n 2, 1) by decide +kernel) rfl) rfl
    (sb_cons (pc2 := 44) (sx_aload_n (show decode cX1_openRow 43 = .ok (.aload_n 0, 1) by decide +kernel) rfl) rfl
    (sb_cons (pc2 := 47) (sx_getf (show decode cX1_openRow 44 = .ok (.getfield 28, 3) by decide +kernel) rfl iX1 (by decide) wd_20) rfl
    (sb_cons (pc2 := 48) (sx_iload_n (show decode cX1_openRow 47 = .ok (.iload_n 2, 1) by decide +kernel) rfl) rfl
    (sb_cons (pc2 := 49) (sx_iconst (show decode cX1_openRow 48 = .ok (.iconst 1, 1) by decide +kernel) (by decide)) rfl
    (sb_cons (pc2 := 50) (sx_isub (show decode cX1_openRow 49 = .ok (.isub, 1) by decide +kernel)) rfl
    (sb_cons (pc2 := 51) (sx_iald (show decode cX1_openRow 50 = .ok (.iaload, 1) by decide +kernel)) rfl
    (sb_cons (pc2 := 52) (sx_iast (show decode cX1_openRow 51 = .ok (.iastore, 1) by decide +kernel)) rfl
    (sb_cons (pc2 := 55) (sx_iinc (show decode cX1_openRow 52 = .ok (.iinc 2 (-1), 3) by decide +kernel) (by decide)) rfl
    (sb_cons (pc2 := 58) (px_snd_goto (show decode cX1_openRow 55 = .ok (.goto (-50), 3) by decide +kernel) (by decide)) rfl sb_nil)))))))))))))))))))))))))))))))))))
  (ms_cons
  (sb_cons (pc2 := 59) (sx_aload_n (show decode cX1_openRow 58 = .ok (.aload_n 0, 1) by decide +kernel) rfl) rfl
    (sb_cons (pc2 := 60) (sx_dup (show decode cX1_openRow 59 = .ok (.dup, 1) by decide +kernel)) rfl
    (sb_cons (pc2 := 63) (sx_getf (show decode cX1_openRow 60 = .ok (.getfield 15, 3) by decide +kernel) rfl iX1 (by decide) wd_15) rfl
    (sb_cons (pc2 := 64) (sx_iconst (show decode cX1_openRow 63 = .ok (.iconst 1, 1) by decide +kernel) (by decide)) rfl
    (sb_cons (pc2 := 65) (sx_iadd (show decode cX1_openRow 64 = .ok (.iadd, 1) by decide +kernel)) rfl
    (sb_cons (pc2 := 68) (sx_puti (show decode cX1_openRow 65 = .ok (.putfield 15, 3) by decide +kernel) rfl iX1 tyX1_ok nmX1 (by decide) wd_15 rfl (Or.inl rfl)) rfl
    (sb_cons (pc2 := 69) (sx_retv (show decode cX1_openRow 68 = .ok (.return_, 1) by decide +kernel) rfl) rfl sb_nil)))))))
  ms_nil)))
def kX1_restAfter (X : px_X) : px_B := [(0, [], [px_aload 0, px_iload 1, px_cV X 8 2 1, px_istore 2, px_iload 2, px_aload 0, px_getf 1 1, px_if2 (fun x y => decide (y ≤ x)) 23, px_aload 0, px_getf 1 5, px_iload 2, px_iald 0, px_goto 24], 23),
  (23, [false, false, false], [px_push (.int 0)], 24),
  (24, [false, false, false], [px_reti], 25)]
set_option maxRecDepth 100000 in
set_option maxHeartbeats 8000000 in
theorem sX1_restAfter (d : Nat) (X : px_X) : px_MS d X YX1_restAfter (kX1_restAfter X) :=
  (ms_cons
  (sb_cons (pc2 := 1) (sx_aload_n (show decode cX1_restAfter 0 = .ok (.aload_n 0, 1) by decide +kernel) rfl) rfl
    (sb_cons (pc2 := 2) (sx_iload_n (show decode cX1_restAfter 1 = .ok (.iload_n 1, 1) by decide +kernel) rfl) rfl
    (sb_cons (pc2 := 5) (sx_cV (Y' := YX1_firstRowFrom) (q := (RX1, TX1, 7)) rfl (show decode cX1_restAfter 2 = .ok (.invokevirtual 37, 3) by decide +kernel) rfl rfl (px_w4 wd_24 wd_25 wd_26 wd_27) wd_23 ⟨by decide, by decide, by decide +kernel⟩ (by decide)) rfl
    (sb_cons (pc2 := 6) (sx_istore_n (show decode cX1_restAfter 5 = .ok (.istore_n 2, 1) by decide +kernel) rfl) rfl
    (sb_cons (pc2 := 7) (sx_iload_n (show decode cX1_restAfter 6 = .ok (.iload_n 2, 1) by decide +kernel) rfl) rfl
    (sb_cons (pc2 := 8) (sx_aload_n (show decode cX1_restAfter 7 = .ok (.aload_n 0, 1) by decide +kernel) rfl) rfl
    (sb_cons (pc2 := 11) (sx_getf (show decode cX1_restAfter 8 = .ok (.getfield 15, 3) by decide +kernel) rfl iX1 (by decide) wd_15) rfl
    (sb_cons (pc2 := 14) (sx_icmp_ge (show decode cX1_restAfter 11 = .ok (.if_icmp .ge 12, 3) by decide +kernel) (by decide)) rfl
    (sb_cons (pc2 := 15) (sx_aload_n (show decode cX1_restAfter 14 = .ok (.aload_n 0, 1) by decide +kernel) rfl) rfl
    (sb_cons (pc2 := 18) (sx_getf (show decode cX1_restAfter 15 = .ok (.getfield 28, 3) by decide +kernel) rfl iX1 (by decide) wd_20) rfl
    (sb_cons (pc2 := 19) (sx_iload_n (show decode cX1_restAfter 18 = .ok (.iload_n 2, 1) by decide +kernel) rfl) rfl
    (sb_cons (pc2 := 20) (sx_iald (show decode cX1_restAfter 19 = .ok (.iaload, 1) by decide +kernel)) rfl
    (sb_cons (pc2 := 23) (px_snd_goto (show decode cX1_restAfter 20 = .ok (.goto 4, 3) by decide +kernel) (by decide)) rfl sb_nil)))))))))))))
  (ms_cons
  (sb_cons (pc2 := 24) (sx_iconst (show decode cX1_restAfter 23 = .ok (.iconst 0, 1) by decide +kernel) (by decide)) rfl sb_nil)
  (ms_cons
  (sb_cons (pc2 := 25) (sx_reti (show decode cX1_restAfter 24 = .ok (.ireturn, 1) by decide +kernel) rfl) rfl sb_nil)
  ms_nil)))
def kX1_canBeAsked (X : px_X) : px_B := [(0, [], [px_aload 0, px_iload 1, px_cV X 6 2 1, px_if1 (fun x => decide (x = 0)) 31, px_aload 0, px_iload 2, px_cV X 6 2 1, px_if1 (fun x => decide (x = 0)) 31, px_iload 1, px_iload 2, px_if2 (fun x y => decide (x = y)) 31, px_iload 3, px_if1 (fun x => decide (x < 0)) 31, px_iload 3, px_push (.int 1440000), px_if2 (fun x y => decide (x < y)) 33], 31),
  (31, [false, false, false, false, false, false], [px_push (.int 0), px_retz], 33),
  (33, [false, false, false, false, true, true], [px_iload 4, px_push (.int 1), px_if2 (fun x y => decide (x < y)) 64, px_iload 4, px_push (.int 90), px_if2 (fun x y => decide (y < x)) 64, px_iload 5, px_push (.int 1), px_if2 (fun x y => decide (x < y)) 64, px_iload 5, px_push (.int 200), px_if2 (fun x y => decide (y < x)) 64, px_push (.int 1), px_goto 65], 64),
  (64, [false, false, false, false, false, false], [px_push (.int 0)], 65),
  (65, [false, false, false, false, false, false], [px_retz], 66)]
set_option maxRecDepth 100000 in
set_option maxHeartbeats 8000000 in
theorem sX1_canBeAsked (d : Nat) (X : px_X) : px_MS d X YX1_canBeAsked (kX1_canBeAsked X) :=
  (ms_cons
  (sb_cons (pc2 := 1) (sx_aload_n (show decode cX1_canBeAsked 0 = .ok (.aload_n 0, 1) by decide +kernel) rfl) rfl
    (sb_cons (pc2 := 2) (sx_iload_n (show decode cX1_canBeAsked 1 = .ok (.iload_n 1, 1) by decide +kernel) rfl) rfl
    (sb_cons (pc2 := 5) (sx_cV (Y' := YX1_hasDiver) (q := (RX1, TX1, 7)) rfl (show decode cX1_canBeAsked 2 = .ok (.invokevirtual 45, 3) by decide +kernel) rfl rfl (px_w4 wd_33 wd_34 wd_35 wd_27) wd_32 ⟨by decide, by decide, by decide +kernel⟩ (by decide)) rfl
    (sb_cons (pc2 := 8) (sx_if_eq (show decode cX1_canBeAsked 5 = .ok (.ifCond .eq 26, 3) by decide +kernel) (by decide)) rfl
    (sb_cons (pc2 := 9) (sx_aload_n (show decode cX1_canBeAsked 8 = .ok (.aload_n 0, 1) by decide +kernel) rfl) rfl
    (sb_cons (pc2 := 10) (sx_iload_n (show decode cX1_canBeAsked 9 = .ok (.iload_n 2, 1) by decide +kernel) rfl) rfl
    (sb_cons (pc2 := 13) (sx_cV (Y' := YX1_hasDiver) (q := (RX1, TX1, 7)) rfl (show decode cX1_canBeAsked 10 = .ok (.invokevirtual 45, 3) by decide +kernel) rfl rfl (px_w4 wd_33 wd_34 wd_35 wd_27) wd_32 ⟨by decide, by decide, by decide +kernel⟩ (by decide)) rfl
    (sb_cons (pc2 := 16) (sx_if_eq (show decode cX1_canBeAsked 13 = .ok (.ifCond .eq 18, 3) by decide +kernel) (by decide)) rfl
    (sb_cons (pc2 := 17) (sx_iload_n (show decode cX1_canBeAsked 16 = .ok (.iload_n 1, 1) by decide +kernel) rfl) rfl
    (sb_cons (pc2 := 18) (sx_iload_n (show decode cX1_canBeAsked 17 = .ok (.iload_n 2, 1) by decide +kernel) rfl) rfl
    (sb_cons (pc2 := 21) (sx_icmp_eq (show decode cX1_canBeAsked 18 = .ok (.if_icmp .eq 13, 3) by decide +kernel) (by decide)) rfl
    (sb_cons (pc2 := 22) (sx_iload_n (show decode cX1_canBeAsked 21 = .ok (.iload_n 3, 1) by decide +kernel) rfl) rfl
    (sb_cons (pc2 := 25) (sx_if_lt (show decode cX1_canBeAsked 22 = .ok (.ifCond .lt 9, 3) by decide +kernel) (by decide)) rfl
    (sb_cons (pc2 := 26) (sx_iload_n (show decode cX1_canBeAsked 25 = .ok (.iload_n 3, 1) by decide +kernel) rfl) rfl
    (sb_cons (pc2 := 28) (sx_ldc (show decode cX1_canBeAsked 26 = .ok (.ldc 49, 2) by decide +kernel) wd_36) rfl
    (sb_cons (pc2 := 31) (sx_icmp_lt (show decode cX1_canBeAsked 28 = .ok (.if_icmp .lt 5, 3) by decide +kernel) (by decide)) rfl sb_nil))))))))))))))))
  (ms_cons
  (sb_cons (pc2 := 32) (sx_iconst (show decode cX1_canBeAsked 31 = .ok (.iconst 0, 1) by decide +kernel) (by decide)) rfl
    (sb_cons (pc2 := 33) (sx_retz (show decode cX1_canBeAsked 32 = .ok (.ireturn, 1) by decide +kernel) rfl) rfl sb_nil))
  (ms_cons
  (sb_cons (pc2 := 35) (sx_iload (show decode cX1_canBeAsked 33 = .ok (.iload 4, 2) by decide +kernel)) rfl
    (sb_cons (pc2 := 36) (sx_iconst (show decode cX1_canBeAsked 35 = .ok (.iconst 1, 1) by decide +kernel) (by decide)) rfl
    (sb_cons (pc2 := 39) (sx_icmp_lt (show decode cX1_canBeAsked 36 = .ok (.if_icmp .lt 28, 3) by decide +kernel) (by decide)) rfl
    (sb_cons (pc2 := 41) (sx_iload (show decode cX1_canBeAsked 39 = .ok (.iload 4, 2) by decide +kernel)) rfl
    (sb_cons (pc2 := 43) (sx_bipush (show decode cX1_canBeAsked 41 = .ok (.bipush 90, 2) by decide +kernel) (by decide)) rfl
    (sb_cons (pc2 := 46) (sx_icmp_gt (show decode cX1_canBeAsked 43 = .ok (.if_icmp .gt 21, 3) by decide +kernel) (by decide)) rfl
    (sb_cons (pc2 := 48) (sx_iload (show decode cX1_canBeAsked 46 = .ok (.iload 5, 2) by decide +kernel)) rfl
    (sb_cons (pc2 := 49) (sx_iconst (show decode cX1_canBeAsked 48 = .ok (.iconst 1, 1) by decide +kernel) (by decide)) rfl
    (sb_cons (pc2 := 52) (sx_icmp_lt (show decode cX1_canBeAsked 49 = .ok (.if_icmp .lt 15, 3) by decide +kernel) (by decide)) rfl
    (sb_cons (pc2 := 54) (sx_iload (show decode cX1_canBeAsked 52 = .ok (.iload 5, 2) by decide +kernel)) rfl
    (sb_cons (pc2 := 57) (sx_sipush (show decode cX1_canBeAsked 54 = .ok (.sipush 200, 3) by decide +kernel) (by decide)) rfl
    (sb_cons (pc2 := 60) (sx_icmp_gt (show decode cX1_canBeAsked 57 = .ok (.if_icmp .gt 7, 3) by decide +kernel) (by decide)) rfl
    (sb_cons (pc2 := 61) (sx_iconst (show decode cX1_canBeAsked 60 = .ok (.iconst 1, 1) by decide +kernel) (by decide)) rfl
    (sb_cons (pc2 := 64) (px_snd_goto (show decode cX1_canBeAsked 61 = .ok (.goto 4, 3) by decide +kernel) (by decide)) rfl sb_nil))))))))))))))
  (ms_cons
  (sb_cons (pc2 := 65) (sx_iconst (show decode cX1_canBeAsked 64 = .ok (.iconst 0, 1) by decide +kernel) (by decide)) rfl sb_nil)
  (ms_cons
  (sb_cons (pc2 := 66) (sx_retz (show decode cX1_canBeAsked 65 = .ok (.ireturn, 1) by decide +kernel) rfl) rfl sb_nil)
  ms_nil)))))
def kX1_refusal (X : px_X) : px_B := [(0, [], [px_aload 0, px_iload 4, px_iload 5, px_cV X 13 3 1, px_istore 6, px_iload 6, px_if1 (fun x => decide (x = 0)) 20, px_iload 6, px_goto 35], 20),
  (20, [true, true, true, true, true, true, false], [px_aload 0, px_iload 1, px_iload 2, px_iload 3, px_iload 5, px_aload 0, px_iload 4, px_cV X 10 2 1, px_cV X 14 6 1], 35),
  (35, [false, false, false, false, false, false, false], [px_reti], 36)]
set_option maxRecDepth 100000 in
set_option maxHeartbeats 8000000 in
theorem sX1_refusal (d : Nat) (X : px_X) : px_MS d X YX1_refusal (kX1_refusal X) :=
  (ms_cons
  (sb_cons (pc2 := 1) (sx_aload_n (show decode cX1_refusal 0 = .ok (.aload_n 0, 1) by decide +kernel) rfl) rfl
    (sb_cons (pc2 := 3) (sx_iload (show decode cX1_refusal 1 = .ok (.iload 4, 2) by decide +kernel)) rfl
    (sb_cons (pc2 := 5) (sx_iload (show decode cX1_refusal 3 = .ok (.iload 5, 2) by decide +kernel)) rfl
    (sb_cons (pc2 := 8) (sx_cV (Y' := YX1_tableRefusal) (q := (RX1, TX1, 7)) rfl (show decode cX1_refusal 5 = .ok (.invokevirtual 50, 3) by decide +kernel) rfl rfl (px_w4 wd_38 wd_39 wd_40 wd_27) wd_37 ⟨by decide, by decide, by decide +kernel⟩ (by decide)) rfl
    (sb_cons (pc2 := 10) (sx_istore (show decode cX1_refusal 8 = .ok (.istore 6, 2) by decide +kernel)) rfl
    (sb_cons (pc2 := 12) (sx_iload (show decode cX1_refusal 10 = .ok (.iload 6, 2) by decide +kernel)) rfl
    (sb_cons (pc2 := 15) (sx_if_eq (show decode cX1_refusal 12 = .ok (.ifCond .eq 8, 3) by decide +kernel) (by decide)) rfl
    (sb_cons (pc2 := 17) (sx_iload (show decode cX1_refusal 15 = .ok (.iload 6, 2) by decide +kernel)) rfl
    (sb_cons (pc2 := 20) (px_snd_goto (show decode cX1_refusal 17 = .ok (.goto 18, 3) by decide +kernel) (by decide)) rfl sb_nil)))))))))
  (ms_cons
  (sb_cons (pc2 := 21) (sx_aload_n (show decode cX1_refusal 20 = .ok (.aload_n 0, 1) by decide +kernel) rfl) rfl
    (sb_cons (pc2 := 22) (sx_iload_n (show decode cX1_refusal 21 = .ok (.iload_n 1, 1) by decide +kernel) rfl) rfl
    (sb_cons (pc2 := 23) (sx_iload_n (show decode cX1_refusal 22 = .ok (.iload_n 2, 1) by decide +kernel) rfl) rfl
    (sb_cons (pc2 := 24) (sx_iload_n (show decode cX1_refusal 23 = .ok (.iload_n 3, 1) by decide +kernel) rfl) rfl
    (sb_cons (pc2 := 26) (sx_iload (show decode cX1_refusal 24 = .ok (.iload 5, 2) by decide +kernel)) rfl
    (sb_cons (pc2 := 27) (sx_aload_n (show decode cX1_refusal 26 = .ok (.aload_n 0, 1) by decide +kernel) rfl) rfl
    (sb_cons (pc2 := 29) (sx_iload (show decode cX1_refusal 27 = .ok (.iload 4, 2) by decide +kernel)) rfl
    (sb_cons (pc2 := 32) (sx_cV (Y' := YX1_restAfter) (q := (RX1, TX1, 7)) rfl (show decode cX1_refusal 29 = .ok (.invokevirtual 54, 3) by decide +kernel) rfl rfl (px_w4 wd_42 wd_43 wd_44 wd_27) wd_41 ⟨by decide, by decide, by decide +kernel⟩ (by decide)) rfl
    (sb_cons (pc2 := 35) (sx_cV (Y' := YX1_timeRefusal) (q := (RX1, TX1, 7)) rfl (show decode cX1_refusal 32 = .ok (.invokevirtual 57, 3) by decide +kernel) rfl rfl (px_w4 wd_46 wd_47 wd_48 wd_27) wd_45 ⟨by decide, by decide, by decide +kernel⟩ (by decide)) rfl sb_nil)))))))))
  (ms_cons
  (sb_cons (pc2 := 36) (sx_reti (show decode cX1_refusal 35 = .ok (.ireturn, 1) by decide +kernel) rfl) rfl sb_nil)
  ms_nil)))
def kX1_tableRefusal (X : px_X) : px_B := [(0, [], [px_aload 0, px_iload 1, px_cV X 8 2 1, px_istore 3, px_iload 3, px_aload 0, px_getf 1 1, px_if2 (fun x y => decide (x < y)) 16, px_push (.int 1), px_reti], 16),
  (16, [true, false, true, true], [px_iload 2, px_aload 0, px_getf 1 4, px_iload 3, px_iald 0, px_if2 (fun x y => decide (x ≤ y)) 30, px_push (.int 2), px_goto 31], 30),
  (30, [false, false, false, false], [px_push (.int 0)], 31),
  (31, [false, false, false, false], [px_reti], 32)]
set_option maxRecDepth 100000 in
set_option maxHeartbeats 8000000 in
theorem sX1_tableRefusal (d : Nat) (X : px_X) : px_MS d X YX1_tableRefusal (kX1_tableRefusal X) :=
  (ms_cons
  (sb_cons (pc2 := 1) (sx_aload_n (show decode cX1_tableRefusal 0 = .ok (.aload_n 0, 1) by decide +kernel) rfl) rfl
    (sb_cons (pc2 := 2) (sx_iload_n (show decode cX1_tableRefusal 1 = .ok (.iload_n 1, 1) by decide +kernel) rfl) rfl
    (sb_cons (pc2 := 5) (sx_cV (Y' := YX1_firstRowFrom) (q := (RX1, TX1, 7)) rfl (show decode cX1_tableRefusal 2 = .ok (.invokevirtual 37, 3) by decide +kernel) rfl rfl (px_w4 wd_24 wd_25 wd_26 wd_27) wd_23 ⟨by decide, by decide, by decide +kernel⟩ (by decide)) rfl
    (sb_cons (pc2 := 6) (sx_istore_n (show decode cX1_tableRefusal 5 = .ok (.istore_n 3, 1) by decide +kernel) rfl) rfl
    (sb_cons (pc2 := 7) (sx_iload_n (show decode cX1_tableRefusal 6 = .ok (.iload_n 3, 1) by decide +kernel) rfl) rfl
    (sb_cons (pc2 := 8) (sx_aload_n (show decode cX1_tableRefusal 7 = .ok (.aload_n 0, 1) by decide +kernel) rfl) rfl
    (sb_cons (pc2 := 11) (sx_getf (show decode cX1_tableRefusal 8 = .ok (.getfield 15, 3) by decide +kernel) rfl iX1 (by decide) wd_15) rfl
    (sb_cons (pc2 := 14) (sx_icmp_lt (show decode cX1_tableRefusal 11 = .ok (.if_icmp .lt 5, 3) by decide +kernel) (by decide)) rfl
    (sb_cons (pc2 := 15) (sx_iconst (show decode cX1_tableRefusal 14 = .ok (.iconst 1, 1) by decide +kernel) (by decide)) rfl
    (sb_cons (pc2 := 16) (sx_reti (show decode cX1_tableRefusal 15 = .ok (.ireturn, 1) by decide +kernel) rfl) rfl sb_nil))))))))))
  (ms_cons
  (sb_cons (pc2 := 17) (sx_iload_n (show decode cX1_tableRefusal 16 = .ok (.iload_n 2, 1) by decide +kernel) rfl) rfl
    (sb_cons (pc2 := 18) (sx_aload_n (show decode cX1_tableRefusal 17 = .ok (.aload_n 0, 1) by decide +kernel) rfl) rfl
    (sb_cons (pc2 := 21) (sx_getf (show decode cX1_tableRefusal 18 = .ok (.getfield 25, 3) by decide +kernel) rfl iX1 (by decide) wd_19) rfl
    (sb_cons (pc2 := 22) (sx_iload_n (show decode cX1_tableRefusal 21 = .ok (.iload_n 3, 1) by decide +kernel) rfl) rfl
    (sb_cons (pc2 := 23) (sx_iald (show decode cX1_tableRefusal 22 = .ok (.iaload, 1) by decide +kernel)) rfl
    (sb_cons (pc2 := 26) (sx_icmp_le (show decode cX1_tableRefusal 23 = .ok (.if_icmp .le 7, 3) by decide +kernel) (by decide)) rfl
    (sb_cons (pc2 := 27) (sx_iconst (show decode cX1_tableRefusal 26 = .ok (.iconst 2, 1) by decide +kernel) (by decide)) rfl
    (sb_cons (pc2 := 30) (px_snd_goto (show decode cX1_tableRefusal 27 = .ok (.goto 4, 3) by decide +kernel) (by decide)) rfl sb_nil))))))))
  (ms_cons
  (sb_cons (pc2 := 31) (sx_iconst (show decode cX1_tableRefusal 30 = .ok (.iconst 0, 1) by decide +kernel) (by decide)) rfl sb_nil)
  (ms_cons
  (sb_cons (pc2 := 32) (sx_reti (show decode cX1_tableRefusal 31 = .ok (.ireturn, 1) by decide +kernel) rfl) rfl sb_nil)
  ms_nil))))
def kX1_timeRefusal (X : px_X) : px_B := [(0, [], [px_push (.int 0), px_istore 6, px_iload 3, px_iload 4, (px_i2 fun x y => x + y), px_istore 7, px_push (.int 0), px_istore 8], 12),
  (12, [true, true, true, true, true, true, true, true, true, false], [px_iload 8, px_aload 0, px_getf 1 2, px_if2 (fun x y => decide (y ≤ x)) 98, px_aload 0, px_getf 1 6, px_iload 8, px_aald 4, px_astore 9, px_aload 9, px_ifnull 92, px_aload 9, px_iload 1, px_cV X 2 2 0, px_if1 (fun x => decide (¬ x = 0)) 53, px_aload 9, px_iload 2, px_cV X 2 2 0, px_if1 (fun x => decide (x = 0)) 92], 53),
  (53, [true, true, true, true, true, true, true, true, true, true], [px_aload 9, px_iload 3, px_iload 7, px_cV X 3 3 0, px_if1 (fun x => decide (x = 0)) 66, px_push (.int 3), px_reti], 66),
  (66, [true, true, true, true, true, true, true, true, true, true], [px_iload 6, px_if1 (fun x => decide (¬ x = 0)) 85, px_aload 0, px_aload 9, px_iload 3, px_iload 7, px_iload 5, px_cV X 15 5 1, px_if1 (fun x => decide (x = 0)) 89], 85),
  (85, [true, true, true, true, true, true, false, true, true, false], [px_push (.int 1), px_goto 90], 89),
  (89, [true, true, true, true, true, true, false, true, true, false], [px_push (.int 0)], 90),
  (90, [true, true, true, true, true, true, false, true, true, false], [px_istore 6], 92),
  (92, [true, true, true, true, true, true, true, true, true, false], [px_iinc 8 1, px_goto 12], 98),
  (98, [true, true, true, true, true, false, true, false, false, false], [px_iload 6, px_if1 (fun x => decide (x = 0)) 105, px_push (.int 4), px_reti], 105),
  (105, [true, true, true, true, true, false, false, false, false, false], [px_iload 3, px_push (.int 1440), (px_i2d fun x y => x / y), px_istore 8, px_aload 0, px_iload 1, px_iload 8, px_cV X 16 3 1, px_aload 0, px_iload 2, px_iload 8, px_cV X 16 3 1, (px_i2m fun x y => if x < y then y else x), px_istore 9, px_iload 9, px_iload 4, (px_i2 fun x y => x + y), px_push (.int 120), px_if2 (fun x y => decide (x ≤ y)) 145, px_push (.int 5), px_goto 146], 145),
  (145, [false, false, false, false, false, false, false, false, false, false], [px_push (.int 0)], 146),
  (146, [false, false, false, false, false, false, false, false, false, false], [px_reti], 147)]
set_option maxRecDepth 100000 in
set_option maxHeartbeats 8000000 in
theorem sX1_timeRefusal (d : Nat) (X : px_X) : px_MS d X YX1_timeRefusal (kX1_timeRefusal X) :=
  (ms_cons
  (sb_cons (pc2 := 1) (sx_iconst (show decode cX1_timeRefusal 0 = .ok (.iconst 0, 1) by decide +kernel) (by decide)) rfl
    (sb_cons (pc2 := 3) (sx_istore (show decode cX1_timeRefusal 1 = .ok (.istore 6, 2) by decide +kernel)) rfl
    (sb_cons (pc2 := 4) (sx_iload_n (show decode cX1_timeRefusal 3 = .ok (.iload_n 3, 1) by decide +kernel) rfl) rfl
    (sb_cons (pc2 := 6) (sx_iload (show decode cX1_timeRefusal 4 = .ok (.iload 4, 2) by decide +kernel)) rfl
    (sb_cons (pc2 := 7) (sx_iadd (show decode cX1_timeRefusal 6 = .ok (.iadd, 1) by decide +kernel)) rfl
    (sb_cons (pc2 := 9) (sx_istore (show decode cX1_timeRefusal 7 = .ok (.istore 7, 2) by decide +kernel)) rfl
    (sb_cons (pc2 := 10) (sx_iconst (show decode cX1_timeRefusal 9 = .ok (.iconst 0, 1) by decide +kernel) (by decide)) rfl
    (sb_cons (pc2 := 12) (sx_istore (show decode cX1_timeRefusal 10 = .ok (.istore 8, 2) by decide +kernel)) rfl sb_nil))))))))
  (ms_cons
  (sb_cons (pc2 := 14) (sx_iload (show decode cX1_timeRefusal 12 = .ok (.iload 8, 2) by decide +kernel)) rfl
    (sb_cons (pc2 := 15) (sx_aload_n (show decode cX1_timeRefusal 14 = .ok (.aload_n 0, 1) by decide +kernel) rfl) rfl
    (sb_cons (pc2 := 18) (sx_getf (show decode cX1_timeRefusal 15 = .ok (.getfield 18, 3) by decide +kernel) rfl iX1 (by decide) wd_16) rfl
    (sb_cons (pc2 := 21) (sx_icmp_ge (show decode cX1_timeRefusal 18 = .ok (.if_icmp .ge 80, 3) by decide +kernel) (by decide)) rfl
    (sb_cons (pc2 := 22) (sx_aload_n (show decode cX1_timeRefusal 21 = .ok (.aload_n 0, 1) by decide +kernel) rfl) rfl
    (sb_cons (pc2 := 25) (sx_getf (show decode cX1_timeRefusal 22 = .ok (.getfield 33, 3) by decide +kernel) rfl iX1 (by decide) wd_22) rfl
    (sb_cons (pc2 := 27) (sx_iload (show decode cX1_timeRefusal 25 = .ok (.iload 8, 2) by decide +kernel)) rfl
    (sb_cons (pc2 := 28) (sx_aald (t := 4) (fun _ => rfl) (show decode cX1_timeRefusal 27 = .ok (.aaload, 1) by decide +kernel)) rfl
    (sb_cons (pc2 := 30) (sx_astore (show decode cX1_timeRefusal 28 = .ok (.astore 9, 2) by decide +kernel)) rfl
    (sb_cons (pc2 := 32) (sx_aload (show decode cX1_timeRefusal 30 = .ok (.aload 9, 2) by decide +kernel)) rfl
    (sb_cons (pc2 := 35) (sx_ifnull (show decode cX1_timeRefusal 32 = .ok (.ifnull 60, 3) by decide +kernel) (by decide)) rfl
    (sb_cons (pc2 := 37) (sx_aload (show decode cX1_timeRefusal 35 = .ok (.aload 9, 2) by decide +kernel)) rfl
    (sb_cons (pc2 := 38) (sx_iload_n (show decode cX1_timeRefusal 37 = .ok (.iload_n 1, 1) by decide +kernel) rfl) rfl
    (sb_cons (pc2 := 41) (sx_cV (Y' := YX0_has) (q := (RX0, TX0, 5)) rfl (show decode cX1_timeRefusal 38 = .ok (.invokevirtual 61, 3) by decide +kernel) rfl rfl (px_w4 wd_50 wd_51 wd_52 wd_12) wd_49 ⟨by decide, by decide, by decide +kernel⟩ (by decide)) rfl
    (sb_cons (pc2 := 44) (sx_if_ne (show decode cX1_timeRefusal 41 = .ok (.ifCond .ne 12, 3) by decide +kernel) (by decide)) rfl
    (sb_cons (pc2 := 46) (sx_aload (show decode cX1_timeRefusal 44 = .ok (.aload 9, 2) by decide +kernel)) rfl
    (sb_cons (pc2 := 47) (sx_iload_n (show decode cX1_timeRefusal 46 = .ok (.iload_n 2, 1) by decide +kernel) rfl) rfl
    (sb_cons (pc2 := 50) (sx_cV (Y' := YX0_has) (q := (RX0, TX0, 5)) rfl (show decode cX1_timeRefusal 47 = .ok (.invokevirtual 61, 3) by decide +kernel) rfl rfl (px_w4 wd_50 wd_51 wd_52 wd_12) wd_49 ⟨by decide, by decide, by decide +kernel⟩ (by decide)) rfl
    (sb_cons (pc2 := 53) (sx_if_eq (show decode cX1_timeRefusal 50 = .ok (.ifCond .eq 42, 3) by decide +kernel) (by decide)) rfl sb_nil)))))))))))))))))))
  (ms_cons
  (sb_cons (pc2 := 55) (sx_aload (show decode cX1_timeRefusal 53 = .ok (.aload 9, 2) by decide +kernel)) rfl
    (sb_cons (pc2 := 56) (sx_iload_n (show decode cX1_timeRefusal 55 = .ok (.iload_n 3, 1) by decide +kernel) rfl) rfl
    (sb_cons (pc2 := 58) (sx_iload (show decode cX1_timeRefusal 56 = .ok (.iload 7, 2) by decide +kernel)) rfl
    (sb_cons (pc2 := 61) (sx_cV (Y' := YX0_meets) (q := (RX0, TX0, 5)) rfl (show decode cX1_timeRefusal 58 = .ok (.invokevirtual 64, 3) by decide +kernel) rfl rfl (px_w4 wd_54 wd_55 wd_56 wd_12) wd_53 ⟨by decide, by decide, by decide +kernel⟩ (by decide)) rfl
    (sb_cons (pc2 := 64) (sx_if_eq (show decode cX1_timeRefusal 61 = .ok (.ifCond .eq 5, 3) by decide +kernel) (by decide)) rfl
    (sb_cons (pc2 := 65) (sx_iconst (show decode cX1_timeRefusal 64 = .ok (.iconst 3, 1) by decide +kernel) (by decide)) rfl
    (sb_cons (pc2 := 66) (sx_reti (show decode cX1_timeRefusal 65 = .ok (.ireturn, 1) by decide +kernel) rfl) rfl sb_nil)))))))
  (ms_cons
  (sb_cons (pc2 := 68) (sx_iload (show decode cX1_timeRefusal 66 = .ok (.iload 6, 2) by decide +kernel)) rfl
    (sb_cons (pc2 := 71) (sx_if_ne (show decode cX1_timeRefusal 68 = .ok (.ifCond .ne 17, 3) by decide +kernel) (by decide)) rfl
    (sb_cons (pc2 := 72) (sx_aload_n (show decode cX1_timeRefusal 71 = .ok (.aload_n 0, 1) by decide +kernel) rfl) rfl
    (sb_cons (pc2 := 74) (sx_aload (show decode cX1_timeRefusal 72 = .ok (.aload 9, 2) by decide +kernel)) rfl
    (sb_cons (pc2 := 75) (sx_iload_n (show decode cX1_timeRefusal 74 = .ok (.iload_n 3, 1) by decide +kernel) rfl) rfl
    (sb_cons (pc2 := 77) (sx_iload (show decode cX1_timeRefusal 75 = .ok (.iload 7, 2) by decide +kernel)) rfl
    (sb_cons (pc2 := 79) (sx_iload (show decode cX1_timeRefusal 77 = .ok (.iload 5, 2) by decide +kernel)) rfl
    (sb_cons (pc2 := 82) (sx_cV (Y' := YX1_isTooNear) (q := (RX1, TX1, 7)) rfl (show decode cX1_timeRefusal 79 = .ok (.invokevirtual 68, 3) by decide +kernel) rfl rfl (px_w4 wd_58 wd_59 wd_60 wd_27) wd_57 ⟨by decide, by decide, by decide +kernel⟩ (by decide)) rfl
    (sb_cons (pc2 := 85) (sx_if_eq (show decode cX1_timeRefusal 82 = .ok (.ifCond .eq 7, 3) by decide +kernel) (by decide)) rfl sb_nil)))))))))
  (ms_cons
  (sb_cons (pc2 := 86) (sx_iconst (show decode cX1_timeRefusal 85 = .ok (.iconst 1, 1) by decide +kernel) (by decide)) rfl
    (sb_cons (pc2 := 89) (px_snd_goto (show decode cX1_timeRefusal 86 = .ok (.goto 4, 3) by decide +kernel) (by decide)) rfl sb_nil))
  (ms_cons
  (sb_cons (pc2 := 90) (sx_iconst (show decode cX1_timeRefusal 89 = .ok (.iconst 0, 1) by decide +kernel) (by decide)) rfl sb_nil)
  (ms_cons
  (sb_cons (pc2 := 92) (sx_istore (show decode cX1_timeRefusal 90 = .ok (.istore 6, 2) by decide +kernel)) rfl sb_nil)
  (ms_cons
  (sb_cons (pc2 := 95) (sx_iinc (show decode cX1_timeRefusal 92 = .ok (.iinc 8 1, 3) by decide +kernel) (by decide)) rfl
    (sb_cons (pc2 := 98) (px_snd_goto (show decode cX1_timeRefusal 95 = .ok (.goto (-83), 3) by decide +kernel) (by decide)) rfl sb_nil))
  (ms_cons
  (sb_cons (pc2 := 100) (sx_iload (show decode cX1_timeRefusal 98 = .ok (.iload 6, 2) by decide +kernel)) rfl
    (sb_cons (pc2 := 103) (sx_if_eq (show decode cX1_timeRefusal 100 = .ok (.ifCond .eq 5, 3) by decide +kernel) (by decide)) rfl
    (sb_cons (pc2 := 104) (sx_iconst (show decode cX1_timeRefusal 103 = .ok (.iconst 4, 1) by decide +kernel) (by decide)) rfl
    (sb_cons (pc2 := 105) (sx_reti (show decode cX1_timeRefusal 104 = .ok (.ireturn, 1) by decide +kernel) rfl) rfl sb_nil))))
  (ms_cons
  (sb_cons (pc2 := 106) (sx_iload_n (show decode cX1_timeRefusal 105 = .ok (.iload_n 3, 1) by decide +kernel) rfl) rfl
    (sb_cons (pc2 := 109) (sx_sipush (show decode cX1_timeRefusal 106 = .ok (.sipush 1440, 3) by decide +kernel) (by decide)) rfl
    (sb_cons (pc2 := 110) (sx_idiv (show decode cX1_timeRefusal 109 = .ok (.idiv, 1) by decide +kernel)) rfl
    (sb_cons (pc2 := 112) (sx_istore (show decode cX1_timeRefusal 110 = .ok (.istore 8, 2) by decide +kernel)) rfl
    (sb_cons (pc2 := 113) (sx_aload_n (show decode cX1_timeRefusal 112 = .ok (.aload_n 0, 1) by decide +kernel) rfl) rfl
    (sb_cons (pc2 := 114) (sx_iload_n (show decode cX1_timeRefusal 113 = .ok (.iload_n 1, 1) by decide +kernel) rfl) rfl
    (sb_cons (pc2 := 116) (sx_iload (show decode cX1_timeRefusal 114 = .ok (.iload 8, 2) by decide +kernel)) rfl
    (sb_cons (pc2 := 119) (sx_cV (Y' := YX1_minutesOn) (q := (RX1, TX1, 7)) rfl (show decode cX1_timeRefusal 116 = .ok (.invokevirtual 72, 3) by decide +kernel) rfl rfl (px_w4 wd_62 wd_63 wd_64 wd_27) wd_61 ⟨by decide, by decide, by decide +kernel⟩ (by decide)) rfl
    (sb_cons (pc2 := 120) (sx_aload_n (show decode cX1_timeRefusal 119 = .ok (.aload_n 0, 1) by decide +kernel) rfl) rfl
    (sb_cons (pc2 := 121) (sx_iload_n (show decode cX1_timeRefusal 120 = .ok (.iload_n 2, 1) by decide +kernel) rfl) rfl
    (sb_cons (pc2 := 123) (sx_iload (show decode cX1_timeRefusal 121 = .ok (.iload 8, 2) by decide +kernel)) rfl
    (sb_cons (pc2 := 126) (sx_cV (Y' := YX1_minutesOn) (q := (RX1, TX1, 7)) rfl (show decode cX1_timeRefusal 123 = .ok (.invokevirtual 72, 3) by decide +kernel) rfl rfl (px_w4 wd_62 wd_63 wd_64 wd_27) wd_61 ⟨by decide, by decide, by decide +kernel⟩ (by decide)) rfl
    (sb_cons (pc2 := 129) (sx_mmax (show decode cX1_timeRefusal 126 = .ok (.invokestatic 75, 3) by decide +kernel) wd_65 wd_66 wd_67 wd_68) rfl
    (sb_cons (pc2 := 131) (sx_istore (show decode cX1_timeRefusal 129 = .ok (.istore 9, 2) by decide +kernel)) rfl
    (sb_cons (pc2 := 133) (sx_iload (show decode cX1_timeRefusal 131 = .ok (.iload 9, 2) by decide +kernel)) rfl
    (sb_cons (pc2 := 135) (sx_iload (show decode cX1_timeRefusal 133 = .ok (.iload 4, 2) by decide +kernel)) rfl
    (sb_cons (pc2 := 136) (sx_iadd (show decode cX1_timeRefusal 135 = .ok (.iadd, 1) by decide +kernel)) rfl
    (sb_cons (pc2 := 138) (sx_bipush (show decode cX1_timeRefusal 136 = .ok (.bipush 120, 2) by decide +kernel) (by decide)) rfl
    (sb_cons (pc2 := 141) (sx_icmp_le (show decode cX1_timeRefusal 138 = .ok (.if_icmp .le 7, 3) by decide +kernel) (by decide)) rfl
    (sb_cons (pc2 := 142) (sx_iconst (show decode cX1_timeRefusal 141 = .ok (.iconst 5, 1) by decide +kernel) (by decide)) rfl
    (sb_cons (pc2 := 145) (px_snd_goto (show decode cX1_timeRefusal 142 = .ok (.goto 4, 3) by decide +kernel) (by decide)) rfl sb_nil)))))))))))))))))))))
  (ms_cons
  (sb_cons (pc2 := 146) (sx_iconst (show decode cX1_timeRefusal 145 = .ok (.iconst 0, 1) by decide +kernel) (by decide)) rfl sb_nil)
  (ms_cons
  (sb_cons (pc2 := 147) (sx_reti (show decode cX1_timeRefusal 146 = .ok (.ireturn, 1) by decide +kernel) rfl) rfl sb_nil)
  ms_nil))))))))))))
def kX1_isTooNear (X : px_X) : px_B := [(0, [], [px_aload 1, px_cV X 1 1 0, px_iload 2, px_if2 (fun x y => decide (y ≤ x)) 31, px_iload 2, px_aload 1, px_cV X 1 1 0, (px_i2 fun x y => x - y), px_aload 0, px_aload 1, px_getf 0 3, px_cV X 10 2 1, px_if2 (fun x y => decide (y ≤ x)) 29, px_push (.int 1), px_goto 30], 29),
  (29, [false, false, false, false, false], [px_push (.int 0)], 30),
  (30, [false, false, false, false, false], [px_retz], 31),
  (31, [false, true, false, true, true], [px_aload 1, px_getf 0 2, px_iload 3, (px_i2 fun x y => x - y), px_iload 4, px_if2 (fun x y => decide (y ≤ x)) 46, px_push (.int 1), px_goto 47], 46),
  (46, [false, false, false, false, false], [px_push (.int 0)], 47),
  (47, [false, false, false, false, false], [px_retz], 48)]
set_option maxRecDepth 100000 in
set_option maxHeartbeats 8000000 in
theorem sX1_isTooNear (d : Nat) (X : px_X) : px_MS d X YX1_isTooNear (kX1_isTooNear X) :=
  (ms_cons
  (sb_cons (pc2 := 1) (sx_aload_n (show decode cX1_isTooNear 0 = .ok (.aload_n 1, 1) by decide +kernel) rfl) rfl
    (sb_cons (pc2 := 4) (sx_cV (Y' := YX0_end) (q := (RX0, TX0, 5)) rfl (show decode cX1_isTooNear 1 = .ok (.invokevirtual 80, 3) by decide +kernel) rfl rfl (px_w4 wd_69 wd_10 wd_11 wd_12) wd_8 ⟨by decide, by decide, by decide +kernel⟩ (by decide)) rfl
    (sb_cons (pc2 := 5) (sx_iload_n (show decode cX1_isTooNear 4 = .ok (.iload_n 2, 1) by decide +kernel) rfl) rfl
    (sb_cons (pc2 := 8) (sx_icmp_ge (show decode cX1_isTooNear 5 = .ok (.if_icmp .ge 26, 3) by decide +kernel) (by decide)) rfl
    (sb_cons (pc2 := 9) (sx_iload_n (show decode cX1_isTooNear 8 = .ok (.iload_n 2, 1) by decide +kernel) rfl) rfl
    (sb_cons (pc2 := 10) (sx_aload_n (show decode cX1_isTooNear 9 = .ok (.aload_n 1, 1) by decide +kernel) rfl) rfl
    (sb_cons (pc2 := 13) (sx_cV (Y' := YX0_end) (q := (RX0, TX0, 5)) rfl (show decode cX1_isTooNear 10 = .ok (.invokevirtual 80, 3) by decide +kernel) rfl rfl (px_w4 wd_69 wd_10 wd_11 wd_12) wd_8 ⟨by decide, by decide, by decide +kernel⟩ (by decide)) rfl
    (sb_cons (pc2 := 14) (sx_isub (show decode cX1_isTooNear 13 = .ok (.isub, 1) by decide +kernel)) rfl
    (sb_cons (pc2 := 15) (sx_aload_n (show decode cX1_isTooNear 14 = .ok (.aload_n 0, 1) by decide +kernel) rfl) rfl
    (sb_cons (pc2 := 16) (sx_aload_n (show decode cX1_isTooNear 15 = .ok (.aload_n 1, 1) by decide +kernel) rfl) rfl
    (sb_cons (pc2 := 19) (sx_getf (show decode cX1_isTooNear 16 = .ok (.getfield 84, 3) by decide +kernel) rfl iX0 (by decide) wd_70) rfl
    (sb_cons (pc2 := 22) (sx_cV (Y' := YX1_restAfter) (q := (RX1, TX1, 7)) rfl (show decode cX1_isTooNear 19 = .ok (.invokevirtual 54, 3) by decide +kernel) rfl rfl (px_w4 wd_42 wd_43 wd_44 wd_27) wd_41 ⟨by decide, by decide, by decide +kernel⟩ (by decide)) rfl
    (sb_cons (pc2 := 25) (sx_icmp_ge (show decode cX1_isTooNear 22 = .ok (.if_icmp .ge 7, 3) by decide +kernel) (by decide)) rfl
    (sb_cons (pc2 := 26) (sx_iconst (show decode cX1_isTooNear 25 = .ok (.iconst 1, 1) by decide +kernel) (by decide)) rfl
    (sb_cons (pc2 := 29) (px_snd_goto (show decode cX1_isTooNear 26 = .ok (.goto 4, 3) by decide +kernel) (by decide)) rfl sb_nil)))))))))))))))
  (ms_cons
  (sb_cons (pc2 := 30) (sx_iconst (show decode cX1_isTooNear 29 = .ok (.iconst 0, 1) by decide +kernel) (by decide)) rfl sb_nil)
  (ms_cons
  (sb_cons (pc2 := 31) (sx_retz (show decode cX1_isTooNear 30 = .ok (.ireturn, 1) by decide +kernel) rfl) rfl sb_nil)
  (ms_cons
  (sb_cons (pc2 := 32) (sx_aload_n (show decode cX1_isTooNear 31 = .ok (.aload_n 1, 1) by decide +kernel) rfl) rfl
    (sb_cons (pc2 := 35) (sx_getf (show decode cX1_isTooNear 32 = .ok (.getfield 87, 3) by decide +kernel) rfl iX0 (by decide) wd_71) rfl
    (sb_cons (pc2 := 36) (sx_iload_n (show decode cX1_isTooNear 35 = .ok (.iload_n 3, 1) by decide +kernel) rfl) rfl
    (sb_cons (pc2 := 37) (sx_isub (show decode cX1_isTooNear 36 = .ok (.isub, 1) by decide +kernel)) rfl
    (sb_cons (pc2 := 39) (sx_iload (show decode cX1_isTooNear 37 = .ok (.iload 4, 2) by decide +kernel)) rfl
    (sb_cons (pc2 := 42) (sx_icmp_ge (show decode cX1_isTooNear 39 = .ok (.if_icmp .ge 7, 3) by decide +kernel) (by decide)) rfl
    (sb_cons (pc2 := 43) (sx_iconst (show decode cX1_isTooNear 42 = .ok (.iconst 1, 1) by decide +kernel) (by decide)) rfl
    (sb_cons (pc2 := 46) (px_snd_goto (show decode cX1_isTooNear 43 = .ok (.goto 4, 3) by decide +kernel) (by decide)) rfl sb_nil))))))))
  (ms_cons
  (sb_cons (pc2 := 47) (sx_iconst (show decode cX1_isTooNear 46 = .ok (.iconst 0, 1) by decide +kernel) (by decide)) rfl sb_nil)
  (ms_cons
  (sb_cons (pc2 := 48) (sx_retz (show decode cX1_isTooNear 47 = .ok (.ireturn, 1) by decide +kernel) rfl) rfl sb_nil)
  ms_nil))))))
def kX1_minutesOn (X : px_X) : px_B := [(0, [], [px_push (.int 0), px_istore 3, px_push (.int 0), px_istore 4], 5),
  (5, [true, true, true, true, true, false], [px_iload 4, px_aload 0, px_getf 1 2, px_if2 (fun x y => decide (y ≤ x)) 64, px_aload 0, px_getf 1 6, px_iload 4, px_aald 4, px_astore 5, px_aload 5, px_ifnull 58, px_aload 5, px_iload 1, px_cV X 2 2 0, px_if1 (fun x => decide (x = 0)) 58, px_aload 5, px_getf 0 2, px_push (.int 1440), (px_i2d fun x y => x / y), px_iload 2, px_if2 (fun x y => decide (¬ x = y)) 58, px_iload 3, px_aload 5, px_getf 0 4, (px_i2 fun x y => x + y), px_istore 3], 58),
  (58, [true, true, true, true, true, false], [px_iinc 4 1, px_goto 5], 64),
  (64, [false, false, false, true, false, false], [px_iload 3, px_reti], 66)]
set_option maxRecDepth 100000 in
set_option maxHeartbeats 8000000 in
theorem sX1_minutesOn (d : Nat) (X : px_X) : px_MS d X YX1_minutesOn (kX1_minutesOn X) :=
  (ms_cons
  (sb_cons (pc2 := 1) (sx_iconst (show decode cX1_minutesOn 0 = .ok (.iconst 0, 1) by decide +kernel) (by decide)) rfl
    (sb_cons (pc2 := 2) (sx_istore_n (show decode cX1_minutesOn 1 = .ok (.istore_n 3, 1) by decide +kernel) rfl) rfl
    (sb_cons (pc2 := 3) (sx_iconst (show decode cX1_minutesOn 2 = .ok (.iconst 0, 1) by decide +kernel) (by decide)) rfl
    (sb_cons (pc2 := 5) (sx_istore (show decode cX1_minutesOn 3 = .ok (.istore 4, 2) by decide +kernel)) rfl sb_nil))))
  (ms_cons
  (sb_cons (pc2 := 7) (sx_iload (show decode cX1_minutesOn 5 = .ok (.iload 4, 2) by decide +kernel)) rfl
    (sb_cons (pc2 := 8) (sx_aload_n (show decode cX1_minutesOn 7 = .ok (.aload_n 0, 1) by decide +kernel) rfl) rfl
    (sb_cons (pc2 := 11) (sx_getf (show decode cX1_minutesOn 8 = .ok (.getfield 18, 3) by decide +kernel) rfl iX1 (by decide) wd_16) rfl
    (sb_cons (pc2 := 14) (sx_icmp_ge (show decode cX1_minutesOn 11 = .ok (.if_icmp .ge 53, 3) by decide +kernel) (by decide)) rfl
    (sb_cons (pc2 := 15) (sx_aload_n (show decode cX1_minutesOn 14 = .ok (.aload_n 0, 1) by decide +kernel) rfl) rfl
    (sb_cons (pc2 := 18) (sx_getf (show decode cX1_minutesOn 15 = .ok (.getfield 33, 3) by decide +kernel) rfl iX1 (by decide) wd_22) rfl
    (sb_cons (pc2 := 20) (sx_iload (show decode cX1_minutesOn 18 = .ok (.iload 4, 2) by decide +kernel)) rfl
    (sb_cons (pc2 := 21) (sx_aald (t := 4) (fun _ => rfl) (show decode cX1_minutesOn 20 = .ok (.aaload, 1) by decide +kernel)) rfl
    (sb_cons (pc2 := 23) (sx_astore (show decode cX1_minutesOn 21 = .ok (.astore 5, 2) by decide +kernel)) rfl
    (sb_cons (pc2 := 25) (sx_aload (show decode cX1_minutesOn 23 = .ok (.aload 5, 2) by decide +kernel)) rfl
    (sb_cons (pc2 := 28) (sx_ifnull (show decode cX1_minutesOn 25 = .ok (.ifnull 33, 3) by decide +kernel) (by decide)) rfl
    (sb_cons (pc2 := 30) (sx_aload (show decode cX1_minutesOn 28 = .ok (.aload 5, 2) by decide +kernel)) rfl
    (sb_cons (pc2 := 31) (sx_iload_n (show decode cX1_minutesOn 30 = .ok (.iload_n 1, 1) by decide +kernel) rfl) rfl
    (sb_cons (pc2 := 34) (sx_cV (Y' := YX0_has) (q := (RX0, TX0, 5)) rfl (show decode cX1_minutesOn 31 = .ok (.invokevirtual 61, 3) by decide +kernel) rfl rfl (px_w4 wd_50 wd_51 wd_52 wd_12) wd_49 ⟨by decide, by decide, by decide +kernel⟩ (by decide)) rfl
    (sb_cons (pc2 := 37) (sx_if_eq (show decode cX1_minutesOn 34 = .ok (.ifCond .eq 24, 3) by decide +kernel) (by decide)) rfl
    (sb_cons (pc2 := 39) (sx_aload (show decode cX1_minutesOn 37 = .ok (.aload 5, 2) by decide +kernel)) rfl
    (sb_cons (pc2 := 42) (sx_getf (show decode cX1_minutesOn 39 = .ok (.getfield 87, 3) by decide +kernel) rfl iX0 (by decide) wd_71) rfl
    (sb_cons (pc2 := 45) (sx_sipush (show decode cX1_minutesOn 42 = .ok (.sipush 1440, 3) by decide +kernel) (by decide)) rfl
    (sb_cons (pc2 := 46) (sx_idiv (show decode cX1_minutesOn 45 = .ok (.idiv, 1) by decide +kernel)) rfl
    (sb_cons (pc2 := 47) (sx_iload_n (show decode cX1_minutesOn 46 = .ok (.iload_n 2, 1) by decide +kernel) rfl) rfl
    (sb_cons (pc2 := 50) (sx_icmp_ne (show decode cX1_minutesOn 47 = .ok (.if_icmp .ne 11, 3) by decide +kernel) (by decide)) rfl
    (sb_cons (pc2 := 51) (sx_iload_n (show decode cX1_minutesOn 50 = .ok (.iload_n 3, 1) by decide +kernel) rfl) rfl
    (sb_cons (pc2 := 53) (sx_aload (show decode cX1_minutesOn 51 = .ok (.aload 5, 2) by decide +kernel)) rfl
    (sb_cons (pc2 := 56) (sx_getf (show decode cX1_minutesOn 53 = .ok (.getfield 90, 3) by decide +kernel) rfl iX0 (by decide) wd_72) rfl
    (sb_cons (pc2 := 57) (sx_iadd (show decode cX1_minutesOn 56 = .ok (.iadd, 1) by decide +kernel)) rfl
    (sb_cons (pc2 := 58) (sx_istore_n (show decode cX1_minutesOn 57 = .ok (.istore_n 3, 1) by decide +kernel) rfl) rfl sb_nil))))))))))))))))))))))))))
  (ms_cons
  (sb_cons (pc2 := 61) (sx_iinc (show decode cX1_minutesOn 58 = .ok (.iinc 4 1, 3) by decide +kernel) (by decide)) rfl
    (sb_cons (pc2 := 64) (px_snd_goto (show decode cX1_minutesOn 61 = .ok (.goto (-56), 3) by decide +kernel) (by decide)) rfl sb_nil))
  (ms_cons
  (sb_cons (pc2 := 65) (sx_iload_n (show decode cX1_minutesOn 64 = .ok (.iload_n 3, 1) by decide +kernel) rfl) rfl
    (sb_cons (pc2 := 66) (sx_reti (show decode cX1_minutesOn 65 = .ok (.ireturn, 1) by decide +kernel) rfl) rfl sb_nil))
  ms_nil))))
def kX1_addDive (X : px_X) : px_B := [(0, [], [px_aload 0, px_getf 1 2, px_push (.int 40), px_if2 (fun x y => decide (x < y)) 12, px_push (.int (-4)), px_reti], 12),
  (12, [true, true, true, true, true, true], [px_aload 0, px_getf 1 6, px_aload 0, px_getf 1 2, px_new 0 [.int 0, .int 0, .int 0, .int 0, .int 0], px_dup, px_iload 1, px_iload 2, px_iload 3, px_iload 4, px_iload 5, px_cI X 0 6, px_aast 4 0, px_aload 0, px_dup, px_getf 1 2, px_push (.int 1), (px_i2 fun x y => x + y), px_puti 1 2, px_aload 0, px_getf 1 2, px_push (.int 1), (px_i2 fun x y => x - y), px_reti], 52)]
set_option maxRecDepth 100000 in
set_option maxHeartbeats 8000000 in
theorem sX1_addDive (d : Nat) (X : px_X) : px_MS d X YX1_addDive (kX1_addDive X) :=
  (ms_cons
  (sb_cons (pc2 := 1) (sx_aload_n (show decode cX1_addDive 0 = .ok (.aload_n 0, 1) by decide +kernel) rfl) rfl
    (sb_cons (pc2 := 4) (sx_getf (show decode cX1_addDive 1 = .ok (.getfield 18, 3) by decide +kernel) rfl iX1 (by decide) wd_16) rfl
    (sb_cons (pc2 := 6) (sx_bipush (show decode cX1_addDive 4 = .ok (.bipush 40, 2) by decide +kernel) (by decide)) rfl
    (sb_cons (pc2 := 9) (sx_icmp_lt (show decode cX1_addDive 6 = .ok (.if_icmp .lt 6, 3) by decide +kernel) (by decide)) rfl
    (sb_cons (pc2 := 11) (sx_bipush (show decode cX1_addDive 9 = .ok (.bipush (-4), 2) by decide +kernel) (by decide)) rfl
    (sb_cons (pc2 := 12) (sx_reti (show decode cX1_addDive 11 = .ok (.ireturn, 1) by decide +kernel) rfl) rfl sb_nil))))))
  (ms_cons
  (sb_cons (pc2 := 13) (sx_aload_n (show decode cX1_addDive 12 = .ok (.aload_n 0, 1) by decide +kernel) rfl) rfl
    (sb_cons (pc2 := 16) (sx_getf (show decode cX1_addDive 13 = .ok (.getfield 33, 3) by decide +kernel) rfl iX1 (by decide) wd_22) rfl
    (sb_cons (pc2 := 17) (sx_aload_n (show decode cX1_addDive 16 = .ok (.aload_n 0, 1) by decide +kernel) rfl) rfl
    (sb_cons (pc2 := 20) (sx_getf (show decode cX1_addDive 17 = .ok (.getfield 18, 3) by decide +kernel) rfl iX1 (by decide) wd_16) rfl
    (sb_cons (pc2 := 23) (sx_new (show decode cX1_addDive 20 = .ok (.new 31, 3) by decide +kernel) rfl iX0 tyX0_ok wd_21 wd_73 wd_12 (px_dflt (by decide +kernel)) rfl (fun _ => rfl)) rfl
    (sb_cons (pc2 := 24) (sx_dup (show decode cX1_addDive 23 = .ok (.dup, 1) by decide +kernel)) rfl
    (sb_cons (pc2 := 25) (sx_iload_n (show decode cX1_addDive 24 = .ok (.iload_n 1, 1) by decide +kernel) rfl) rfl
    (sb_cons (pc2 := 26) (sx_iload_n (show decode cX1_addDive 25 = .ok (.iload_n 2, 1) by decide +kernel) rfl) rfl
    (sb_cons (pc2 := 27) (sx_iload_n (show decode cX1_addDive 26 = .ok (.iload_n 3, 1) by decide +kernel) rfl) rfl
    (sb_cons (pc2 := 29) (sx_iload (show decode cX1_addDive 27 = .ok (.iload 4, 2) by decide +kernel)) rfl
    (sb_cons (pc2 := 31) (sx_iload (show decode cX1_addDive 29 = .ok (.iload 5, 2) by decide +kernel)) rfl
    (sb_cons (pc2 := 34) (sx_cI (Y' := YX0_init) rfl (show decode cX1_addDive 31 = .ok (.invokespecial 93, 3) by decide +kernel) wd_76 wd_75 wd_12 rfl rfl wd_74 ⟨by decide, by decide, by decide +kernel⟩ (by decide)) rfl
    (sb_cons (pc2 := 35) (sx_aast (t := 4) (q := (RX0, TX0, 5)) (fun _ => rfl) rfl (show decode cX1_addDive 34 = .ok (.aastore, 1) by decide +kernel)) rfl
    (sb_cons (pc2 := 36) (sx_aload_n (show decode cX1_addDive 35 = .ok (.aload_n 0, 1) by decide +kernel) rfl) rfl
    (sb_cons (pc2 := 37) (sx_dup (show decode cX1_addDive 36 = .ok (.dup, 1) by decide +kernel)) rfl
    (sb_cons (pc2 := 40) (sx_getf (show decode cX1_addDive 37 = .ok (.getfield 18, 3) by decide +kernel) rfl iX1 (by decide) wd_16) rfl
    (sb_cons (pc2 := 41) (sx_iconst (show decode cX1_addDive 40 = .ok (.iconst 1, 1) by decide +kernel) (by decide)) rfl
    (sb_cons (pc2 := 42) (sx_iadd (show decode cX1_addDive 41 = .ok (.iadd, 1) by decide +kernel)) rfl
    (sb_cons (pc2 := 45) (sx_puti (show decode cX1_addDive 42 = .ok (.putfield 18, 3) by decide +kernel) rfl iX1 tyX1_ok nmX1 (by decide) wd_16 rfl (Or.inl rfl)) rfl
    (sb_cons (pc2 := 46) (sx_aload_n (show decode cX1_addDive 45 = .ok (.aload_n 0, 1) by decide +kernel) rfl) rfl
    (sb_cons (pc2 := 49) (sx_getf (show decode cX1_addDive 46 = .ok (.getfield 18, 3) by decide +kernel) rfl iX1 (by decide) wd_16) rfl
    (sb_cons (pc2 := 50) (sx_iconst (show decode cX1_addDive 49 = .ok (.iconst 1, 1) by decide +kernel) (by decide)) rfl
    (sb_cons (pc2 := 51) (sx_isub (show decode cX1_addDive 50 = .ok (.isub, 1) by decide +kernel)) rfl
    (sb_cons (pc2 := 52) (sx_reti (show decode cX1_addDive 51 = .ok (.ireturn, 1) by decide +kernel) rfl) rfl sb_nil))))))))))))))))))))))))
  ms_nil))
def kX1_dropLast (X : px_X) : px_B := [(0, [], [px_aload 0, px_getf 1 2, px_push (.int 1), px_if2 (fun x y => decide (y ≤ x)) 11, px_push (.int (-3)), px_reti], 11),
  (11, [true], [px_aload 0, px_dup, px_getf 1 2, px_push (.int 1), (px_i2 fun x y => x - y), px_puti 1 2, px_aload 0, px_getf 1 6, px_aload 0, px_getf 1 2, px_push .null, px_aasn 4, px_aload 0, px_getf 1 2, px_reti], 36)]
set_option maxRecDepth 100000 in
set_option maxHeartbeats 8000000 in
theorem sX1_dropLast (d : Nat) (X : px_X) : px_MS d X YX1_dropLast (kX1_dropLast X) :=
  (ms_cons
  (sb_cons (pc2 := 1) (sx_aload_n (show decode cX1_dropLast 0 = .ok (.aload_n 0, 1) by decide +kernel) rfl) rfl
    (sb_cons (pc2 := 4) (sx_getf (show decode cX1_dropLast 1 = .ok (.getfield 18, 3) by decide +kernel) rfl iX1 (by decide) wd_16) rfl
    (sb_cons (pc2 := 5) (sx_iconst (show decode cX1_dropLast 4 = .ok (.iconst 1, 1) by decide +kernel) (by decide)) rfl
    (sb_cons (pc2 := 8) (sx_icmp_ge (show decode cX1_dropLast 5 = .ok (.if_icmp .ge 6, 3) by decide +kernel) (by decide)) rfl
    (sb_cons (pc2 := 10) (sx_bipush (show decode cX1_dropLast 8 = .ok (.bipush (-3), 2) by decide +kernel) (by decide)) rfl
    (sb_cons (pc2 := 11) (sx_reti (show decode cX1_dropLast 10 = .ok (.ireturn, 1) by decide +kernel) rfl) rfl sb_nil))))))
  (ms_cons
  (sb_cons (pc2 := 12) (sx_aload_n (show decode cX1_dropLast 11 = .ok (.aload_n 0, 1) by decide +kernel) rfl) rfl
    (sb_cons (pc2 := 13) (sx_dup (show decode cX1_dropLast 12 = .ok (.dup, 1) by decide +kernel)) rfl
    (sb_cons (pc2 := 16) (sx_getf (show decode cX1_dropLast 13 = .ok (.getfield 18, 3) by decide +kernel) rfl iX1 (by decide) wd_16) rfl
    (sb_cons (pc2 := 17) (sx_iconst (show decode cX1_dropLast 16 = .ok (.iconst 1, 1) by decide +kernel) (by decide)) rfl
    (sb_cons (pc2 := 18) (sx_isub (show decode cX1_dropLast 17 = .ok (.isub, 1) by decide +kernel)) rfl
    (sb_cons (pc2 := 21) (sx_puti (show decode cX1_dropLast 18 = .ok (.putfield 18, 3) by decide +kernel) rfl iX1 tyX1_ok nmX1 (by decide) wd_16 rfl (Or.inl rfl)) rfl
    (sb_cons (pc2 := 22) (sx_aload_n (show decode cX1_dropLast 21 = .ok (.aload_n 0, 1) by decide +kernel) rfl) rfl
    (sb_cons (pc2 := 25) (sx_getf (show decode cX1_dropLast 22 = .ok (.getfield 33, 3) by decide +kernel) rfl iX1 (by decide) wd_22) rfl
    (sb_cons (pc2 := 26) (sx_aload_n (show decode cX1_dropLast 25 = .ok (.aload_n 0, 1) by decide +kernel) rfl) rfl
    (sb_cons (pc2 := 29) (sx_getf (show decode cX1_dropLast 26 = .ok (.getfield 18, 3) by decide +kernel) rfl iX1 (by decide) wd_16) rfl
    (sb_cons (pc2 := 30) (sx_null (show decode cX1_dropLast 29 = .ok (.aconst_null, 1) by decide +kernel)) rfl
    (sb_cons (pc2 := 31) (sx_aasn (t := 4) (fun _ => rfl) (show decode cX1_dropLast 30 = .ok (.aastore, 1) by decide +kernel)) rfl
    (sb_cons (pc2 := 32) (sx_aload_n (show decode cX1_dropLast 31 = .ok (.aload_n 0, 1) by decide +kernel) rfl) rfl
    (sb_cons (pc2 := 35) (sx_getf (show decode cX1_dropLast 32 = .ok (.getfield 18, 3) by decide +kernel) rfl iX1 (by decide) wd_16) rfl
    (sb_cons (pc2 := 36) (sx_reti (show decode cX1_dropLast 35 = .ok (.ireturn, 1) by decide +kernel) rfl) rfl sb_nil)))))))))))))))
  ms_nil))
def kX1_firstMoment (X : px_X) : px_B := [(0, [], [px_aload 0, px_iload 4, px_iload 5, px_cV X 13 3 1, px_if1 (fun x => decide (x = 0)) 13, px_push (.int (-1)), px_reti], 13),
  (13, [true, true, true, true, true, true, false, false, false, false, false, false], [px_aload 0, px_iload 4, px_cV X 10 2 1, px_istore 6, px_iload 3, px_push (.int 10080), (px_i2 fun x y => x + y), px_push (.int 1439999), (px_i2m fun x y => if y < x then y else x), px_istore 7, px_iload 3, px_istore 8, px_push (.int 0), px_istore 9], 39),
  (39, [true, true, true, false, false, true, true, true, true, true, false, false], [px_iload 9, px_push (.int 100), px_if2 (fun x y => decide (y ≤ x)) 128, px_iload 8, px_iload 7, px_if2 (fun x y => decide (y < x)) 128, px_aload 0, px_iload 1, px_iload 2, px_iload 8, px_iload 5, px_iload 6, px_cV X 14 6 1, px_istore 10, px_iload 10, px_if1 (fun x => decide (¬ x = 0)) 75, px_iload 8, px_reti], 75),
  (75, [true, true, true, false, false, true, true, true, true, true, true, false], [px_iload 10, px_push (.int 5), px_if2 (fun x y => decide (¬ x = y)) 85, px_push (.int 1), px_goto 86], 85),
  (85, [true, true, true, false, false, true, true, true, true, true, false, false], [px_push (.int 0)], 86),
  (86, [true, true, true, false, false, true, true, true, true, true, false, false], [px_istore 11, px_iload 11, px_if1 (fun x => decide (x = 0)) 108, px_iload 8, px_push (.int 1440), (px_i2d fun x y => x / y), px_push (.int 1), (px_i2 fun x y => x + y), px_push (.int 1440), (px_i2 fun x y => x * y), px_goto 120], 108),
  (108, [true, true, true, false, false, true, true, true, true, true, false, false], [px_aload 0, px_iload 1, px_iload 2, px_iload 8, px_iload 5, px_iload 6, px_cV X 20 6 1], 120),
  (120, [true, true, true, false, false, true, true, true, false, true, false, false], [px_istore 8, px_iinc 9 1, px_goto 39], 128),
  (128, [false, false, false, false, false, false, false, false, false, false, false, false], [px_push (.int (-1)), px_reti], 130)]
set_option maxRecDepth 100000 in
set_option maxHeartbeats 8000000 in
theorem sX1_firstMoment (d : Nat) (X : px_X) : px_MS d X YX1_firstMoment (kX1_firstMoment X) :=
  (ms_cons
  (sb_cons (pc2 := 1) (sx_aload_n (show decode cX1_firstMoment 0 = .ok (.aload_n 0, 1) by decide +kernel) rfl) rfl
    (sb_cons (pc2 := 3) (sx_iload (show decode cX1_firstMoment 1 = .ok (.iload 4, 2) by decide +kernel)) rfl
    (sb_cons (pc2 := 5) (sx_iload (show decode cX1_firstMoment 3 = .ok (.iload 5, 2) by decide +kernel)) rfl
    (sb_cons (pc2 := 8) (sx_cV (Y' := YX1_tableRefusal) (q := (RX1, TX1, 7)) rfl (show decode cX1_firstMoment 5 = .ok (.invokevirtual 50, 3) by decide +kernel) rfl rfl (px_w4 wd_38 wd_39 wd_40 wd_27) wd_37 ⟨by decide, by decide, by decide +kernel⟩ (by decide)) rfl
    (sb_cons (pc2 := 11) (sx_if_eq (show decode cX1_firstMoment 8 = .ok (.ifCond .eq 5, 3) by decide +kernel) (by decide)) rfl
    (sb_cons (pc2 := 12) (sx_iconst (show decode cX1_firstMoment 11 = .ok (.iconst (-1), 1) by decide +kernel) (by decide)) rfl
    (sb_cons (pc2 := 13) (sx_reti (show decode cX1_firstMoment 12 = .ok (.ireturn, 1) by decide +kernel) rfl) rfl sb_nil)))))))
  (ms_cons
  (sb_cons (pc2 := 14) (sx_aload_n (show decode cX1_firstMoment 13 = .ok (.aload_n 0, 1) by decide +kernel) rfl) rfl
    (sb_cons (pc2 := 16) (sx_iload (show decode cX1_firstMoment 14 = .ok (.iload 4, 2) by decide +kernel)) rfl
    (sb_cons (pc2 := 19) (sx_cV (Y' := YX1_restAfter) (q := (RX1, TX1, 7)) rfl (show decode cX1_firstMoment 16 = .ok (.invokevirtual 54, 3) by decide +kernel) rfl rfl (px_w4 wd_42 wd_43 wd_44 wd_27) wd_41 ⟨by decide, by decide, by decide +kernel⟩ (by decide)) rfl
    (sb_cons (pc2 := 21) (sx_istore (show decode cX1_firstMoment 19 = .ok (.istore 6, 2) by decide +kernel)) rfl
    (sb_cons (pc2 := 22) (sx_iload_n (show decode cX1_firstMoment 21 = .ok (.iload_n 3, 1) by decide +kernel) rfl) rfl
    (sb_cons (pc2 := 25) (sx_sipush (show decode cX1_firstMoment 22 = .ok (.sipush 10080, 3) by decide +kernel) (by decide)) rfl
    (sb_cons (pc2 := 26) (sx_iadd (show decode cX1_firstMoment 25 = .ok (.iadd, 1) by decide +kernel)) rfl
    (sb_cons (pc2 := 28) (sx_ldc (show decode cX1_firstMoment 26 = .ok (.ldc 96, 2) by decide +kernel) wd_77) rfl
    (sb_cons (pc2 := 31) (sx_mmin (show decode cX1_firstMoment 28 = .ok (.invokestatic 97, 3) by decide +kernel) wd_78 wd_79 wd_67 wd_80) rfl
    (sb_cons (pc2 := 33) (sx_istore (show decode cX1_firstMoment 31 = .ok (.istore 7, 2) by decide +kernel)) rfl
    (sb_cons (pc2 := 34) (sx_iload_n (show decode cX1_firstMoment 33 = .ok (.iload_n 3, 1) by decide +kernel) rfl) rfl
    (sb_cons (pc2 := 36) (sx_istore (show decode cX1_firstMoment 34 = .ok (.istore 8, 2) by decide +kernel)) rfl
    (sb_cons (pc2 := 37) (sx_iconst (show decode cX1_firstMoment 36 = .ok (.iconst 0, 1) by decide +kernel) (by decide)) rfl
    (sb_cons (pc2 := 39) (sx_istore (show decode cX1_firstMoment 37 = .ok (.istore 9, 2) by decide +kernel)) rfl sb_nil))))))))))))))
  (ms_cons
  (sb_cons (pc2 := 41) (sx_iload (show decode cX1_firstMoment 39 = .ok (.iload 9, 2) by decide +kernel)) rfl
    (sb_cons (pc2 := 43) (sx_bipush (show decode cX1_firstMoment 41 = .ok (.bipush 100, 2) by decide +kernel) (by decide)) rfl
    (sb_cons (pc2 := 46) (sx_icmp_ge (show decode cX1_firstMoment 43 = .ok (.if_icmp .ge 85, 3) by decide +kernel) (by decide)) rfl
    (sb_cons (pc2 := 48) (sx_iload (show decode cX1_firstMoment 46 = .ok (.iload 8, 2) by decide +kernel)) rfl
    (sb_cons (pc2 := 50) (sx_iload (show decode cX1_firstMoment 48 = .ok (.iload 7, 2) by decide +kernel)) rfl
    (sb_cons (pc2 := 53) (sx_icmp_gt (show decode cX1_firstMoment 50 = .ok (.if_icmp .gt 78, 3) by decide +kernel) (by decide)) rfl
    (sb_cons (pc2 := 54) (sx_aload_n (show decode cX1_firstMoment 53 = .ok (.aload_n 0, 1) by decide +kernel) rfl) rfl
    (sb_cons (pc2 := 55) (sx_iload_n (show decode cX1_firstMoment 54 = .ok (.iload_n 1, 1) by decide +kernel) rfl) rfl
    (sb_cons (pc2 := 56) (sx_iload_n (show decode cX1_firstMoment 55 = .ok (.iload_n 2, 1) by decide +kernel) rfl) rfl
    (sb_cons (pc2 := 58) (sx_iload (show decode cX1_firstMoment 56 = .ok (.iload 8, 2) by decide +kernel)) rfl
    (sb_cons (pc2 := 60) (sx_iload (show decode cX1_firstMoment 58 = .ok (.iload 5, 2) by decide +kernel)) rfl
    (sb_cons (pc2 := 62) (sx_iload (show decode cX1_firstMoment 60 = .ok (.iload 6, 2) by decide +kernel)) rfl
    (sb_cons (pc2 := 65) (sx_cV (Y' := YX1_timeRefusal) (q := (RX1, TX1, 7)) rfl (show decode cX1_firstMoment 62 = .ok (.invokevirtual 57, 3) by decide +kernel) rfl rfl (px_w4 wd_46 wd_47 wd_48 wd_27) wd_45 ⟨by decide, by decide, by decide +kernel⟩ (by decide)) rfl
    (sb_cons (pc2 := 67) (sx_istore (show decode cX1_firstMoment 65 = .ok (.istore 10, 2) by decide +kernel)) rfl
    (sb_cons (pc2 := 69) (sx_iload (show decode cX1_firstMoment 67 = .ok (.iload 10, 2) by decide +kernel)) rfl
    (sb_cons (pc2 := 72) (sx_if_ne (show decode cX1_firstMoment 69 = .ok (.ifCond .ne 6, 3) by decide +kernel) (by decide)) rfl
    (sb_cons (pc2 := 74) (sx_iload (show decode cX1_firstMoment 72 = .ok (.iload 8, 2) by decide +kernel)) rfl
    (sb_cons (pc2 := 75) (sx_reti (show decode cX1_firstMoment 74 = .ok (.ireturn, 1) by decide +kernel) rfl) rfl sb_nil))))))))))))))))))
  (ms_cons
  (sb_cons (pc2 := 77) (sx_iload (show decode cX1_firstMoment 75 = .ok (.iload 10, 2) by decide +kernel)) rfl
    (sb_cons (pc2 := 78) (sx_iconst (show decode cX1_firstMoment 77 = .ok (.iconst 5, 1) by decide +kernel) (by decide)) rfl
    (sb_cons (pc2 := 81) (sx_icmp_ne (show decode cX1_firstMoment 78 = .ok (.if_icmp .ne 7, 3) by decide +kernel) (by decide)) rfl
    (sb_cons (pc2 := 82) (sx_iconst (show decode cX1_firstMoment 81 = .ok (.iconst 1, 1) by decide +kernel) (by decide)) rfl
    (sb_cons (pc2 := 85) (px_snd_goto (show decode cX1_firstMoment 82 = .ok (.goto 4, 3) by decide +kernel) (by decide)) rfl sb_nil)))))
  (ms_cons
  (sb_cons (pc2 := 86) (sx_iconst (show decode cX1_firstMoment 85 = .ok (.iconst 0, 1) by decide +kernel) (by decide)) rfl sb_nil)
  (ms_cons
  (sb_cons (pc2 := 88) (sx_istore (show decode cX1_firstMoment 86 = .ok (.istore 11, 2) by decide +kernel)) rfl
    (sb_cons (pc2 := 90) (sx_iload (show decode cX1_firstMoment 88 = .ok (.iload 11, 2) by decide +kernel)) rfl
    (sb_cons (pc2 := 93) (sx_if_eq (show decode cX1_firstMoment 90 = .ok (.ifCond .eq 18, 3) by decide +kernel) (by decide)) rfl
    (sb_cons (pc2 := 95) (sx_iload (show decode cX1_firstMoment 93 = .ok (.iload 8, 2) by decide +kernel)) rfl
    (sb_cons (pc2 := 98) (sx_sipush (show decode cX1_firstMoment 95 = .ok (.sipush 1440, 3) by decide +kernel) (by decide)) rfl
    (sb_cons (pc2 := 99) (sx_idiv (show decode cX1_firstMoment 98 = .ok (.idiv, 1) by decide +kernel)) rfl
    (sb_cons (pc2 := 100) (sx_iconst (show decode cX1_firstMoment 99 = .ok (.iconst 1, 1) by decide +kernel) (by decide)) rfl
    (sb_cons (pc2 := 101) (sx_iadd (show decode cX1_firstMoment 100 = .ok (.iadd, 1) by decide +kernel)) rfl
    (sb_cons (pc2 := 104) (sx_sipush (show decode cX1_firstMoment 101 = .ok (.sipush 1440, 3) by decide +kernel) (by decide)) rfl
    (sb_cons (pc2 := 105) (sx_imul (show decode cX1_firstMoment 104 = .ok (.imul, 1) by decide +kernel)) rfl
    (sb_cons (pc2 := 108) (px_snd_goto (show decode cX1_firstMoment 105 = .ok (.goto 15, 3) by decide +kernel) (by decide)) rfl sb_nil)))))))))))
  (ms_cons
  (sb_cons (pc2 := 109) (sx_aload_n (show decode cX1_firstMoment 108 = .ok (.aload_n 0, 1) by decide +kernel) rfl) rfl
    (sb_cons (pc2 := 110) (sx_iload_n (show decode cX1_firstMoment 109 = .ok (.iload_n 1, 1) by decide +kernel) rfl) rfl
    (sb_cons (pc2 := 111) (sx_iload_n (show decode cX1_firstMoment 110 = .ok (.iload_n 2, 1) by decide +kernel) rfl) rfl
    (sb_cons (pc2 := 113) (sx_iload (show decode cX1_firstMoment 111 = .ok (.iload 8, 2) by decide +kernel)) rfl
    (sb_cons (pc2 := 115) (sx_iload (show decode cX1_firstMoment 113 = .ok (.iload 5, 2) by decide +kernel)) rfl
    (sb_cons (pc2 := 117) (sx_iload (show decode cX1_firstMoment 115 = .ok (.iload 6, 2) by decide +kernel)) rfl
    (sb_cons (pc2 := 120) (sx_cV (Y' := YX1_pastHindrance) (q := (RX1, TX1, 7)) rfl (show decode cX1_firstMoment 117 = .ok (.invokevirtual 100, 3) by decide +kernel) rfl rfl (px_w4 wd_82 wd_83 wd_84 wd_27) wd_81 ⟨by decide, by decide, by decide +kernel⟩ (by decide)) rfl sb_nil)))))))
  (ms_cons
  (sb_cons (pc2 := 122) (sx_istore (show decode cX1_firstMoment 120 = .ok (.istore 8, 2) by decide +kernel)) rfl
    (sb_cons (pc2 := 125) (sx_iinc (show decode cX1_firstMoment 122 = .ok (.iinc 9 1, 3) by decide +kernel) (by decide)) rfl
    (sb_cons (pc2 := 128) (px_snd_goto (show decode cX1_firstMoment 125 = .ok (.goto (-86), 3) by decide +kernel) (by decide)) rfl sb_nil)))
  (ms_cons
  (sb_cons (pc2 := 129) (sx_iconst (show decode cX1_firstMoment 128 = .ok (.iconst (-1), 1) by decide +kernel) (by decide)) rfl
    (sb_cons (pc2 := 130) (sx_reti (show decode cX1_firstMoment 129 = .ok (.ireturn, 1) by decide +kernel) rfl) rfl sb_nil))
  ms_nil)))))))))
def kX1_pastHindrance (X : px_X) : px_B := [(0, [], [px_iload 3, px_push (.int 1), (px_i2 fun x y => x + y), px_istore 6, px_iload 3, px_iload 4, (px_i2 fun x y => x + y), px_istore 7, px_push (.int 0), px_istore 8], 14),
  (14, [true, true, true, true, false, true, true, true, true, false], [px_iload 8, px_aload 0, px_getf 1 2, px_if2 (fun x y => decide (y ≤ x)) 112, px_aload 0, px_getf 1 6, px_iload 8, px_aald 4, px_astore 9, px_aload 9, px_ifnull 106, px_aload 9, px_iload 1, px_cV X 2 2 0, px_if1 (fun x => decide (¬ x = 0)) 55, px_aload 9, px_iload 2, px_cV X 2 2 0, px_if1 (fun x => decide (x = 0)) 106], 55),
  (55, [true, true, true, true, false, true, true, true, true, true], [px_aload 9, px_iload 3, px_iload 7, px_cV X 3 3 0, px_if1 (fun x => decide (¬ x = 0)) 80, px_aload 0, px_aload 9, px_iload 3, px_iload 7, px_iload 5, px_cV X 15 5 1, px_if1 (fun x => decide (x = 0)) 106], 80),
  (80, [true, true, true, true, false, true, true, true, true, true], [px_iload 6, px_aload 9, px_cV X 1 1 0, px_push (.int 1), px_aload 0, px_aload 9, px_getf 0 3, px_cV X 10 2 1, (px_i2m fun x y => if x < y then y else x), (px_i2 fun x y => x + y), (px_i2m fun x y => if x < y then y else x), px_istore 6], 106),
  (106, [true, true, true, true, false, true, true, true, true, false], [px_iinc 8 1, px_goto 14], 112),
  (112, [false, false, false, false, false, false, true, false, false, false], [px_iload 6, px_reti], 115)]
set_option maxRecDepth 100000 in
set_option maxHeartbeats 8000000 in
theorem sX1_pastHindrance (d : Nat) (X : px_X) : px_MS d X YX1_pastHindrance (kX1_pastHindrance X) :=
  (ms_cons
  (sb_cons (pc2 := 1) (sx_iload_n (show decode cX1_pastHindrance 0 = .ok (.iload_n 3, 1) by decide +kernel) rfl) rfl
    (sb_cons (pc2 := 2) (sx_iconst (show decode cX1_pastHindrance 1 = .ok (.iconst 1, 1) by decide +kernel) (by decide)) rfl
    (sb_cons (pc2 := 3) (sx_iadd (show decode cX1_pastHindrance 2 = .ok (.iadd, 1) by decide +kernel)) rfl
    (sb_cons (pc2 := 5) (sx_istore (show decode cX1_pastHindrance 3 = .ok (.istore 6, 2) by decide +kernel)) rfl
    (sb_cons (pc2 := 6) (sx_iload_n (show decode cX1_pastHindrance 5 = .ok (.iload_n 3, 1) by decide +kernel) rfl) rfl
    (sb_cons (pc2 := 8) (sx_iload (show decode cX1_pastHindrance 6 = .ok (.iload 4, 2) by decide +kernel)) rfl
    (sb_cons (pc2 := 9) (sx_iadd (show decode cX1_pastHindrance 8 = .ok (.iadd, 1) by decide +kernel)) rfl
    (sb_cons (pc2 := 11) (sx_istore (show decode cX1_pastHindrance 9 = .ok (.istore 7, 2) by decide +kernel)) rfl
    (sb_cons (pc2 := 12) (sx_iconst (show decode cX1_pastHindrance 11 = .ok (.iconst 0, 1) by decide +kernel) (by decide)) rfl
    (sb_cons (pc2 := 14) (sx_istore (show decode cX1_pastHindrance 12 = .ok (.istore 8, 2) by decide +kernel)) rfl sb_nil))))))))))
  (ms_cons
  (sb_cons (pc2 := 16) (sx_iload (show decode cX1_pastHindrance 14 = .ok (.iload 8, 2) by decide +kernel)) rfl
    (sb_cons (pc2 := 17) (sx_aload_n (show decode cX1_pastHindrance 16 = .ok (.aload_n 0, 1) by decide +kernel) rfl) rfl
    (sb_cons (pc2 := 20) (sx_getf (show decode cX1_pastHindrance 17 = .ok (.getfield 18, 3) by decide +kernel) rfl iX1 (by decide) wd_16) rfl
    (sb_cons (pc2 := 23) (sx_icmp_ge (show decode cX1_pastHindrance 20 = .ok (.if_icmp .ge 92, 3) by decide +kernel) (by decide)) rfl
    (sb_cons (pc2 := 24) (sx_aload_n (show decode cX1_pastHindrance 23 = .ok (.aload_n 0, 1) by decide +kernel) rfl) rfl
    (sb_cons (pc2 := 27) (sx_getf (show decode cX1_pastHindrance 24 = .ok (.getfield 33, 3) by decide +kernel) rfl iX1 (by decide) wd_22) rfl
    (sb_cons (pc2 := 29) (sx_iload (show decode cX1_pastHindrance 27 = .ok (.iload 8, 2) by decide +kernel)) rfl
    (sb_cons (pc2 := 30) (sx_aald (t := 4) (fun _ => rfl) (show decode cX1_pastHindrance 29 = .ok (.aaload, 1) by decide +kernel)) rfl
    (sb_cons (pc2 := 32) (sx_astore (show decode cX1_pastHindrance 30 = .ok (.astore 9, 2) by decide +kernel)) rfl
    (sb_cons (pc2 := 34) (sx_aload (show decode cX1_pastHindrance 32 = .ok (.aload 9, 2) by decide +kernel)) rfl
    (sb_cons (pc2 := 37) (sx_ifnull (show decode cX1_pastHindrance 34 = .ok (.ifnull 72, 3) by decide +kernel) (by decide)) rfl
    (sb_cons (pc2 := 39) (sx_aload (show decode cX1_pastHindrance 37 = .ok (.aload 9, 2) by decide +kernel)) rfl
    (sb_cons (pc2 := 40) (sx_iload_n (show decode cX1_pastHindrance 39 = .ok (.iload_n 1, 1) by decide +kernel) rfl) rfl
    (sb_cons (pc2 := 43) (sx_cV (Y' := YX0_has) (q := (RX0, TX0, 5)) rfl (show decode cX1_pastHindrance 40 = .ok (.invokevirtual 61, 3) by decide +kernel) rfl rfl (px_w4 wd_50 wd_51 wd_52 wd_12) wd_49 ⟨by decide, by decide, by decide +kernel⟩ (by decide)) rfl
    (sb_cons (pc2 := 46) (sx_if_ne (show decode cX1_pastHindrance 43 = .ok (.ifCond .ne 12, 3) by decide +kernel) (by decide)) rfl
    (sb_cons (pc2 := 48) (sx_aload (show decode cX1_pastHindrance 46 = .ok (.aload 9, 2) by decide +kernel)) rfl
    (sb_cons (pc2 := 49) (sx_iload_n (show decode cX1_pastHindrance 48 = .ok (.iload_n 2, 1) by decide +kernel) rfl) rfl
    (sb_cons (pc2 := 52) (sx_cV (Y' := YX0_has) (q := (RX0, TX0, 5)) rfl (show decode cX1_pastHindrance 49 = .ok (.invokevirtual 61, 3) by decide +kernel) rfl rfl (px_w4 wd_50 wd_51 wd_52 wd_12) wd_49 ⟨by decide, by decide, by decide +kernel⟩ (by decide)) rfl
    (sb_cons (pc2 := 55) (sx_if_eq (show decode cX1_pastHindrance 52 = .ok (.ifCond .eq 54, 3) by decide +kernel) (by decide)) rfl sb_nil)))))))))))))))))))
  (ms_cons
  (sb_cons (pc2 := 57) (sx_aload (show decode cX1_pastHindrance 55 = .ok (.aload 9, 2) by decide +kernel)) rfl
    (sb_cons (pc2 := 58) (sx_iload_n (show decode cX1_pastHindrance 57 = .ok (.iload_n 3, 1) by decide +kernel) rfl) rfl
    (sb_cons (pc2 := 60) (sx_iload (show decode cX1_pastHindrance 58 = .ok (.iload 7, 2) by decide +kernel)) rfl
    (sb_cons (pc2 := 63) (sx_cV (Y' := YX0_meets) (q := (RX0, TX0, 5)) rfl (show decode cX1_pastHindrance 60 = .ok (.invokevirtual 64, 3) by decide +kernel) rfl rfl (px_w4 wd_54 wd_55 wd_56 wd_12) wd_53 ⟨by decide, by decide, by decide +kernel⟩ (by decide)) rfl
    (sb_cons (pc2 := 66) (sx_if_ne (show decode cX1_pastHindrance 63 = .ok (.ifCond .ne 17, 3) by decide +kernel) (by decide)) rfl
    (sb_cons (pc2 := 67) (sx_aload_n (show decode cX1_pastHindrance 66 = .ok (.aload_n 0, 1) by decide +kernel) rfl) rfl
    (sb_cons (pc2 := 69) (sx_aload (show decode cX1_pastHindrance 67 = .ok (.aload 9, 2) by decide +kernel)) rfl
    (sb_cons (pc2 := 70) (sx_iload_n (show decode cX1_pastHindrance 69 = .ok (.iload_n 3, 1) by decide +kernel) rfl) rfl
    (sb_cons (pc2 := 72) (sx_iload (show decode cX1_pastHindrance 70 = .ok (.iload 7, 2) by decide +kernel)) rfl
    (sb_cons (pc2 := 74) (sx_iload (show decode cX1_pastHindrance 72 = .ok (.iload 5, 2) by decide +kernel)) rfl
    (sb_cons (pc2 := 77) (sx_cV (Y' := YX1_isTooNear) (q := (RX1, TX1, 7)) rfl (show decode cX1_pastHindrance 74 = .ok (.invokevirtual 68, 3) by decide +kernel) rfl rfl (px_w4 wd_58 wd_59 wd_60 wd_27) wd_57 ⟨by decide, by decide, by decide +kernel⟩ (by decide)) rfl
    (sb_cons (pc2 := 80) (sx_if_eq (show decode cX1_pastHindrance 77 = .ok (.ifCond .eq 29, 3) by decide +kernel) (by decide)) rfl sb_nil))))))))))))
  (ms_cons
  (sb_cons (pc2 := 82) (sx_iload (show decode cX1_pastHindrance 80 = .ok (.iload 6, 2) by decide +kernel)) rfl
    (sb_cons (pc2 := 84) (sx_aload (show decode cX1_pastHindrance 82 = .ok (.aload 9, 2) by decide +kernel)) rfl
    (sb_cons (pc2 := 87) (sx_cV (Y' := YX0_end) (q := (RX0, TX0, 5)) rfl (show decode cX1_pastHindrance 84 = .ok (.invokevirtual 80, 3) by decide +kernel) rfl rfl (px_w4 wd_69 wd_10 wd_11 wd_12) wd_8 ⟨by decide, by decide, by decide +kernel⟩ (by decide)) rfl
    (sb_cons (pc2 := 88) (sx_iconst (show decode cX1_pastHindrance 87 = .ok (.iconst 1, 1) by decide +kernel) (by decide)) rfl
    (sb_cons (pc2 := 89) (sx_aload_n (show decode cX1_pastHindrance 88 = .ok (.aload_n 0, 1) by decide +kernel) rfl) rfl
    (sb_cons (pc2 := 91) (sx_aload (show decode cX1_pastHindrance 89 = .ok (.aload 9, 2) by decide +kernel)) rfl
    (sb_cons (pc2 := 94) (sx_getf (show decode cX1_pastHindrance 91 = .ok (.getfield 84, 3) by decide +kernel) rfl iX0 (by decide) wd_70) rfl
    (sb_cons (pc2 := 97) (sx_cV (Y' := YX1_restAfter) (q := (RX1, TX1, 7)) rfl (show decode cX1_pastHindrance 94 = .ok (.invokevirtual 54, 3) by decide +kernel) rfl rfl (px_w4 wd_42 wd_43 wd_44 wd_27) wd_41 ⟨by decide, by decide, by decide +kernel⟩ (by decide)) rfl
    (sb_cons (pc2 := 100) (sx_mmax (show decode cX1_pastHindrance 97 = .ok (.invokestatic 75, 3) by decide +kernel) wd_65 wd_66 wd_67 wd_68) rfl
    (sb_cons (pc2 := 101) (sx_iadd (show decode cX1_pastHindrance 100 = .ok (.iadd, 1) by decide +kernel)) rfl
    (sb_cons (pc2 := 104) (sx_mmax (show decode cX1_pastHindrance 101 = .ok (.invokestatic 75, 3) by decide +kernel) wd_65 wd_66 wd_67 wd_68) rfl
    (sb_cons (pc2 := 106) (sx_istore (show decode cX1_pastHindrance 104 = .ok (.istore 6, 2) by decide +kernel)) rfl sb_nil))))))))))))
  (ms_cons
  (sb_cons (pc2 := 109) (sx_iinc (show decode cX1_pastHindrance 106 = .ok (.iinc 8 1, 3) by decide +kernel) (by decide)) rfl
    (sb_cons (pc2 := 112) (px_snd_goto (show decode cX1_pastHindrance 109 = .ok (.goto (-95), 3) by decide +kernel) (by decide)) rfl sb_nil))
  (ms_cons
  (sb_cons (pc2 := 114) (sx_iload (show decode cX1_pastHindrance 112 = .ok (.iload 6, 2) by decide +kernel)) rfl
    (sb_cons (pc2 := 115) (sx_reti (show decode cX1_pastHindrance 114 = .ok (.ireturn, 1) by decide +kernel) rfl) rfl sb_nil))
  ms_nil))))))
