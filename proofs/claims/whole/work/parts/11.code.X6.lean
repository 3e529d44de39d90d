/-! the code of methods as pure instructions (written by wip/whole/gen.py) -/
def kX6_init (X : px_X) : px_B := [(0, [], [px_aload 0, px_pop, px_aload 0, px_push (.int 4), px_newi 0, px_dup, px_push (.int 0), px_push (.int (-1)), px_iast 0, px_dup, px_push (.int 1), px_push (.int (-1)), px_iast 0, px_dup, px_push (.int 2), px_push (.int (-1)), px_iast 0, px_dup, px_push (.int 3), px_push (.int (-1)), px_iast 0, px_putr 6 0, px_aload 0, px_push (.int 4), px_newi 0, px_putr 6 1, px_aload 0, px_push (.int 4), px_push (.int 40), px_mna, px_putr 6 2, px_retv], 46)]
set_option maxRecDepth 100000 in
set_option maxHeartbeats 8000000 in
theorem sX6_init (d : Nat) (X : px_X) : px_MS d X YX6_init (kX6_init X) :=
  (ms_cons
  (sb_cons (pc2 := 1) (sx_aload_n (show decode cX6_init 0 = .ok (.aload_n 0, 1) by decide +kernel) rfl) rfl
    (sb_cons (pc2 := 4) (sx_pop (show decode cX6_init 1 = .ok (.invokespecial 5, 3) by decide +kernel) wd_263 wd_1 wd_2) rfl
    (sb_cons (pc2 := 5) (sx_aload_n (show decode cX6_init 4 = .ok (.aload_n 0, 1) by decide +kernel) rfl) rfl
    (sb_cons (pc2 := 6) (sx_iconst (show decode cX6_init 5 = .ok (.iconst 4, 1) by decide +kernel) (by decide)) rfl
    (sb_cons (pc2 := 8) (sx_newi (t := 0) (show decode cX6_init 6 = .ok (.newarray .int, 2) by decide +kernel) rfl (fun _ => rfl) (Or.inl rfl) wd_17) rfl
    (sb_cons (pc2 := 9) (sx_dup (show decode cX6_init 8 = .ok (.dup, 1) by decide +kernel)) rfl
    (sb_cons (pc2 := 10) (sx_iconst (show decode cX6_init 9 = .ok (.iconst 0, 1) by decide +kernel) (by decide)) rfl
    (sb_cons (pc2 := 11) (sx_iconst (show decode cX6_init 10 = .ok (.iconst (-1), 1) by decide +kernel) (by decide)) rfl
    (sb_cons (pc2 := 12) (sx_iast (show decode cX6_init 11 = .ok (.iastore, 1) by decide +kernel)) rfl
    (sb_cons (pc2 := 13) (sx_dup (show decode cX6_init 12 = .ok (.dup, 1) by decide +kernel)) rfl
    (sb_cons (pc2 := 14) (sx_iconst (show decode cX6_init 13 = .ok (.iconst 1, 1) by decide +kernel) (by decide)) rfl
    (sb_cons (pc2 := 15) (sx_iconst (show decode cX6_init 14 = .ok (.iconst (-1), 1) by decide +kernel) (by decide)) rfl
    (sb_cons (pc2 := 16) (sx_iast (show decode cX6_init 15 = .ok (.iastore, 1) by decide +kernel)) rfl
    (sb_cons (pc2 := 17) (sx_dup (show decode cX6_init 16 = .ok (.dup, 1) by decide +kernel)) rfl
    (sb_cons (pc2 := 18) (sx_iconst (show decode cX6_init 17 = .ok (.iconst 2, 1) by decide +kernel) (by decide)) rfl
    (sb_cons (pc2 := 19) (sx_iconst (show decode cX6_init 18 = .ok (.iconst (-1), 1) by decide +kernel) (by decide)) rfl
    (sb_cons (pc2 := 20) (sx_iast (show decode cX6_init 19 = .ok (.iastore, 1) by decide +kernel)) rfl
    (sb_cons (pc2 := 21) (sx_dup (show decode cX6_init 20 = .ok (.dup, 1) by decide +kernel)) rfl
    (sb_cons (pc2 := 22) (sx_iconst (show decode cX6_init 21 = .ok (.iconst 3, 1) by decide +kernel) (by decide)) rfl
    (sb_cons (pc2 := 23) (sx_iconst (show decode cX6_init 22 = .ok (.iconst (-1), 1) by decide +kernel) (by decide)) rfl
    (sb_cons (pc2 := 24) (sx_iast (show decode cX6_init 23 = .ok (.iastore, 1) by decide +kernel)) rfl
    (sb_cons (pc2 := 27) (sx_putr (show decode cX6_init 24 = .ok (.putfield 11, 3) by decide +kernel) rfl iX6 tyX6_ok nmX6 (by decide) wd_264 (Or.inr ⟨_, rfl⟩) (Or.inr ⟨rfl, rfl, rfl⟩)) rfl
    (sb_cons (pc2 := 28) (sx_aload_n (show decode cX6_init 27 = .ok (.aload_n 0, 1) by decide +kernel) rfl) rfl
    (sb_cons (pc2 := 29) (sx_iconst (show decode cX6_init 28 = .ok (.iconst 4, 1) by decide +kernel) (by decide)) rfl
    (sb_cons (pc2 := 31) (sx_newi (t := 0) (show decode cX6_init 29 = .ok (.newarray .int, 2) by decide +kernel) rfl (fun _ => rfl) (Or.inl rfl) wd_17) rfl
    (sb_cons (pc2 := 34) (sx_putr (show decode cX6_init 31 = .ok (.putfield 15, 3) by decide +kernel) rfl iX6 tyX6_ok nmX6 (by decide) wd_265 (Or.inr ⟨_, rfl⟩) (Or.inr ⟨rfl, rfl, rfl⟩)) rfl
    (sb_cons (pc2 := 35) (sx_aload_n (show decode cX6_init 34 = .ok (.aload_n 0, 1) by decide +kernel) rfl) rfl
    (sb_cons (pc2 := 36) (sx_iconst (show decode cX6_init 35 = .ok (.iconst 4, 1) by decide +kernel) (by decide)) rfl
    (sb_cons (pc2 := 38) (sx_bipush (show decode cX6_init 36 = .ok (.bipush 40, 2) by decide +kernel) (by decide)) rfl
    (sb_cons (pc2 := 42) (sx_mna (show decode cX6_init 38 = .ok (.multianewarray 18 2, 4) by decide +kernel) wd_266 wd_17) rfl
    (sb_cons (pc2 := 45) (sx_putr (show decode cX6_init 42 = .ok (.putfield 20, 3) by decide +kernel) rfl iX6 tyX6_ok nmX6 (by decide) wd_267 (Or.inr ⟨_, rfl⟩) (Or.inr ⟨rfl, rfl, rfl⟩)) rfl
    (sb_cons (pc2 := 46) (sx_retv (show decode cX6_init 45 = .ok (.return_, 1) by decide +kernel) rfl) rfl sb_nil))))))))))))))))))))))))))))))))
  ms_nil)
def kX6_has (X : px_X) : px_B := [(0, [], [px_iload 1, px_if1 (fun x => decide (x < 0)) 13, px_iload 1, px_push (.int 4), px_if2 (fun x y => decide (y ≤ x)) 13, px_push (.int 1), px_goto 14], 13),
  (13, [false, false], [px_push (.int 0)], 14),
  (14, [false, false], [px_retz], 15)]
set_option maxRecDepth 100000 in
set_option maxHeartbeats 8000000 in
theorem sX6_has (d : Nat) (X : px_X) : px_MS d X YX6_has (kX6_has X) :=
  (ms_cons
  (sb_cons (pc2 := 1) (sx_iload_n (show decode cX6_has 0 = .ok (.iload_n 1, 1) by decide +kernel) rfl) rfl
    (sb_cons (pc2 := 4) (sx_if_lt (show decode cX6_has 1 = .ok (.ifCond .lt 12, 3) by decide +kernel) (by decide)) rfl
    (sb_cons (pc2 := 5) (sx_iload_n (show decode cX6_has 4 = .ok (.iload_n 1, 1) by decide +kernel) rfl) rfl
    (sb_cons (pc2 := 6) (sx_iconst (show decode cX6_has 5 = .ok (.iconst 4, 1) by decide +kernel) (by decide)) rfl
    (sb_cons (pc2 := 9) (sx_icmp_ge (show decode cX6_has 6 = .ok (.if_icmp .ge 7, 3) by decide +kernel) (by decide)) rfl
    (sb_cons (pc2 := 10) (sx_iconst (show decode cX6_has 9 = .ok (.iconst 1, 1) by decide +kernel) (by decide)) rfl
    (sb_cons (pc2 := 13) (px_snd_goto (show decode cX6_has 10 = .ok (.goto 4, 3) by decide +kernel) (by decide)) rfl sb_nil)))))))
  (ms_cons
  (sb_cons (pc2 := 14) (sx_iconst (show decode cX6_has 13 = .ok (.iconst 0, 1) by decide +kernel) (by decide)) rfl sb_nil)
  (ms_cons
  (sb_cons (pc2 := 15) (sx_retz (show decode cX6_has 14 = .ok (.ireturn, 1) by decide +kernel) rfl) rfl sb_nil)
  ms_nil)))
def kX6_make (X : px_X) : px_B := [(0, [], [px_aload 0, px_iload 1, px_cV X 70 2 6, px_if1 (fun x => decide (x = 0)) 18, px_iload 2, px_push (.int (-1)), px_if2 (fun x y => decide (x < y)) 18, px_iload 2, px_push (.int 2), px_if2 (fun x y => decide (x ≤ y)) 21], 18),
  (18, [false, false, false, false, false], [px_push (.int (-2)), px_reti], 21),
  (21, [true, true, true, true, false], [px_iload 2, px_push (.int (-1)), px_if2 (fun x y => decide (¬ x = y)) 42, px_aload 0, px_getf 6 0, px_iload 1, px_push (.int (-1)), px_iast 0, px_aload 0, px_getf 6 1, px_iload 1, px_push (.int 0), px_iast 0, px_push (.int 1), px_reti], 42),
  (42, [true, true, true, true, false], [px_iload 3, px_push (.int 40), px_if2 (fun x y => decide (x ≤ y)) 51, px_push (.int (-2)), px_reti], 51),
  (51, [true, true, true, true, false], [px_iload 3, px_if1 (fun x => decide (0 ≤ x)) 58, px_push (.int (-14)), px_reti], 58),
  (58, [true, true, true, true, false], [px_aload 0, px_getf 6 0, px_iload 1, px_iload 2, px_iast 0, px_aload 0, px_getf 6 1, px_iload 1, px_iload 3, px_iast 0, px_push (.int 0), px_istore 4], 75),
  (75, [true, true, false, true, true], [px_iload 4, px_iload 3, px_if2 (fun x y => decide (y ≤ x)) 97, px_aload 0, px_getf 6 2, px_iload 1, px_aald 5, px_iload 4, px_push (.int 0), px_iast 0, px_iinc 4 1, px_goto 75], 97),
  (97, [false, false, false, false, false], [px_push (.int 1), px_reti], 99)]
set_option maxRecDepth 100000 in
set_option maxHeartbeats 8000000 in
theorem sX6_make (d : Nat) (X : px_X) : px_MS d X YX6_make (kX6_make X) :=
  (ms_cons
  (sb_cons (pc2 := 1) (sx_aload_n (show decode cX6_make 0 = .ok (.aload_n 0, 1) by decide +kernel) rfl) rfl
    (sb_cons (pc2 := 2) (sx_iload_n (show decode cX6_make 1 = .ok (.iload_n 1, 1) by decide +kernel) rfl) rfl
    (sb_cons (pc2 := 5) (sx_cV (Y' := YX6_has) (q := (RX6, TX6, 3)) rfl (show decode cX6_make 2 = .ok (.invokevirtual 23, 3) by decide +kernel) rfl rfl (px_w4 wd_269 wd_270 wd_271 wd_272) wd_268 ⟨by decide, by decide, by decide +kernel⟩ (by decide)) rfl
    (sb_cons (pc2 := 8) (sx_if_eq (show decode cX6_make 5 = .ok (.ifCond .eq 13, 3) by decide +kernel) (by decide)) rfl
    (sb_cons (pc2 := 9) (sx_iload_n (show decode cX6_make 8 = .ok (.iload_n 2, 1) by decide +kernel) rfl) rfl
    (sb_cons (pc2 := 10) (sx_iconst (show decode cX6_make 9 = .ok (.iconst (-1), 1) by decide +kernel) (by decide)) rfl
    (sb_cons (pc2 := 13) (sx_icmp_lt (show decode cX6_make 10 = .ok (.if_icmp .lt 8, 3) by decide +kernel) (by decide)) rfl
    (sb_cons (pc2 := 14) (sx_iload_n (show decode cX6_make 13 = .ok (.iload_n 2, 1) by decide +kernel) rfl) rfl
    (sb_cons (pc2 := 15) (sx_iconst (show decode cX6_make 14 = .ok (.iconst 2, 1) by decide +kernel) (by decide)) rfl
    (sb_cons (pc2 := 18) (sx_icmp_le (show decode cX6_make 15 = .ok (.if_icmp .le 6, 3) by decide +kernel) (by decide)) rfl sb_nil))))))))))
  (ms_cons
  (sb_cons (pc2 := 20) (sx_bipush (show decode cX6_make 18 = .ok (.bipush (-2), 2) by decide +kernel) (by decide)) rfl
    (sb_cons (pc2 := 21) (sx_reti (show decode cX6_make 20 = .ok (.ireturn, 1) by decide +kernel) rfl) rfl sb_nil))
  (ms_cons
  (sb_cons (pc2 := 22) (sx_iload_n (show decode cX6_make 21 = .ok (.iload_n 2, 1) by decide +kernel) rfl) rfl
    (sb_cons (pc2 := 23) (sx_iconst (show decode cX6_make 22 = .ok (.iconst (-1), 1) by decide +kernel) (by decide)) rfl
    (sb_cons (pc2 := 26) (sx_icmp_ne (show decode cX6_make 23 = .ok (.if_icmp .ne 19, 3) by decide +kernel) (by decide)) rfl
    (sb_cons (pc2 := 27) (sx_aload_n (show decode cX6_make 26 = .ok (.aload_n 0, 1) by decide +kernel) rfl) rfl
    (sb_cons (pc2 := 30) (sx_getf (show decode cX6_make 27 = .ok (.getfield 11, 3) by decide +kernel) rfl iX6 (by decide) wd_264) rfl
    (sb_cons (pc2 := 31) (sx_iload_n (show decode cX6_make 30 = .ok (.iload_n 1, 1) by decide +kernel) rfl) rfl
    (sb_cons (pc2 := 32) (sx_iconst (show decode cX6_make 31 = .ok (.iconst (-1), 1) by decide +kernel) (by decide)) rfl
    (sb_cons (pc2 := 33) (sx_iast (show decode cX6_make 32 = .ok (.iastore, 1) by decide +kernel)) rfl
    (sb_cons (pc2 := 34) (sx_aload_n (show decode cX6_make 33 = .ok (.aload_n 0, 1) by decide +kernel) rfl) rfl
    (sb_cons (pc2 := 37) (sx_getf (show decode cX6_make 34 = .ok (.getfield 15, 3) by decide +kernel) rfl iX6 (by decide) wd_265) rfl
    (sb_cons (pc2 := 38) (sx_iload_n (show decode cX6_make 37 = .ok (.iload_n 1, 1) by decide +kernel) rfl) rfl
    (sb_cons (pc2 := 39) (sx_iconst (show decode cX6_make 38 = .ok (.iconst 0, 1) by decide +kernel) (by decide)) rfl
    (sb_cons (pc2 := 40) (sx_iast (show decode cX6_make 39 = .ok (.iastore, 1) by decide +kernel)) rfl
    (sb_cons (pc2 := 41) (sx_iconst (show decode cX6_make 40 = .ok (.iconst 1, 1) by decide +kernel) (by decide)) rfl
    (sb_cons (pc2 := 42) (sx_reti (show decode cX6_make 41 = .ok (.ireturn, 1) by decide +kernel) rfl) rfl sb_nil)))))))))))))))
  (ms_cons
  (sb_cons (pc2 := 43) (sx_iload_n (show decode cX6_make 42 = .ok (.iload_n 3, 1) by decide +kernel) rfl) rfl
    (sb_cons (pc2 := 45) (sx_bipush (show decode cX6_make 43 = .ok (.bipush 40, 2) by decide +kernel) (by decide)) rfl
    (sb_cons (pc2 := 48) (sx_icmp_le (show decode cX6_make 45 = .ok (.if_icmp .le 6, 3) by decide +kernel) (by decide)) rfl
    (sb_cons (pc2 := 50) (sx_bipush (show decode cX6_make 48 = .ok (.bipush (-2), 2) by decide +kernel) (by decide)) rfl
    (sb_cons (pc2 := 51) (sx_reti (show decode cX6_make 50 = .ok (.ireturn, 1) by decide +kernel) rfl) rfl sb_nil)))))
  (ms_cons
  (sb_cons (pc2 := 52) (sx_iload_n (show decode cX6_make 51 = .ok (.iload_n 3, 1) by decide +kernel) rfl) rfl
    (sb_cons (pc2 := 55) (sx_if_ge (show decode cX6_make 52 = .ok (.ifCond .ge 6, 3) by decide +kernel) (by decide)) rfl
    (sb_cons (pc2 := 57) (sx_bipush (show decode cX6_make 55 = .ok (.bipush (-14), 2) by decide +kernel) (by decide)) rfl
    (sb_cons (pc2 := 58) (sx_reti (show decode cX6_make 57 = .ok (.ireturn, 1) by decide +kernel) rfl) rfl sb_nil))))
  (ms_cons
  (sb_cons (pc2 := 59) (sx_aload_n (show decode cX6_make 58 = .ok (.aload_n 0, 1) by decide +kernel) rfl) rfl
    (sb_cons (pc2 := 62) (sx_getf (show decode cX6_make 59 = .ok (.getfield 11, 3) by decide +kernel) rfl iX6 (by decide) wd_264) rfl
    (sb_cons (pc2 := 63) (sx_iload_n (show decode cX6_make 62 = .ok (.iload_n 1, 1) by decide +kernel) rfl) rfl
    (sb_cons (pc2 := 64) (sx_iload_n (show decode cX6_make 63 = .ok (.iload_n 2, 1) by decide +kernel) rfl) rfl
    (sb_cons (pc2 := 65) (sx_iast (show decode cX6_make 64 = .ok (.iastore, 1) by decide +kernel)) rfl
    (sb_cons (pc2 := 66) (sx_aload_n (show decode cX6_make 65 = .ok (.aload_n 0, 1) by decide +kernel) rfl) rfl
    (sb_cons (pc2 := 69) (sx_getf (show decode cX6_make 66 = .ok (.getfield 15, 3) by decide +kernel) rfl iX6 (by decide) wd_265) rfl
    (sb_cons (pc2 := 70) (sx_iload_n (show decode cX6_make 69 = .ok (.iload_n 1, 1) by decide +kernel) rfl) rfl
    (sb_cons (pc2 := 71) (sx_iload_n (show decode cX6_make 70 = .ok (.iload_n 3, 1) by decide +kernel) rfl) rfl
    (sb_cons (pc2 := 72) (sx_iast (show decode cX6_make 71 = .ok (.iastore, 1) by decide +kernel)) rfl
    (sb_cons (pc2 := 73) (sx_iconst (show decode cX6_make 72 = .ok (.iconst 0, 1) by decide +kernel) (by decide)) rfl
    (sb_cons (pc2 := 75) (sx_istore (show decode cX6_make 73 = .ok (.istore 4, 2) by decide +kernel)) rfl sb_nil))))))))))))
  (ms_cons
  (sb_cons (pc2 := 77) (sx_iload (show decode cX6_make 75 = .ok (.iload 4, 2) by decide +kernel)) rfl
    (sb_cons (pc2 := 78) (sx_iload_n (show decode cX6_make 77 = .ok (.iload_n 3, 1) by decide +kernel) rfl) rfl
    (sb_cons (pc2 := 81) (sx_icmp_ge (show decode cX6_make 78 = .ok (.if_icmp .ge 19, 3) by decide +kernel) (by decide)) rfl
    (sb_cons (pc2 := 82) (sx_aload_n (show decode cX6_make 81 = .ok (.aload_n 0, 1) by decide +kernel) rfl) rfl
    (sb_cons (pc2 := 85) (sx_getf (show decode cX6_make 82 = .ok (.getfield 20, 3) by decide +kernel) rfl iX6 (by decide) wd_267) rfl
    (sb_cons (pc2 := 86) (sx_iload_n (show decode cX6_make 85 = .ok (.iload_n 1, 1) by decide +kernel) rfl) rfl
    (sb_cons (pc2 := 87) (sx_aaldA (t := 5) (fun _ => rfl) (show decode cX6_make 86 = .ok (.aaload, 1) by decide +kernel)) rfl
    (sb_cons (pc2 := 89) (sx_iload (show decode cX6_make 87 = .ok (.iload 4, 2) by decide +kernel)) rfl
    (sb_cons (pc2 := 90) (sx_iconst (show decode cX6_make 89 = .ok (.iconst 0, 1) by decide +kernel) (by decide)) rfl
    (sb_cons (pc2 := 91) (sx_iast (show decode cX6_make 90 = .ok (.iastore, 1) by decide +kernel)) rfl
    (sb_cons (pc2 := 94) (sx_iinc (show decode cX6_make 91 = .ok (.iinc 4 1, 3) by decide +kernel) (by decide)) rfl
    (sb_cons (pc2 := 97) (px_snd_goto (show decode cX6_make 94 = .ok (.goto (-19), 3) by decide +kernel) (by decide)) rfl sb_nil))))))))))))
  (ms_cons
  (sb_cons (pc2 := 98) (sx_iconst (show decode cX6_make 97 = .ok (.iconst 1, 1) by decide +kernel) (by decide)) rfl
    (sb_cons (pc2 := 99) (sx_reti (show decode cX6_make 98 = .ok (.ireturn, 1) by decide +kernel) rfl) rfl sb_nil))
  ms_nil))))))))
def kX6_put (X : px_X) : px_B := [(0, [], [px_aload 0, px_iload 1, px_cV X 70 2 6, px_if1 (fun x => decide (x = 0)) 20, px_iload 3, px_push (.int (-40000)), px_if2 (fun x y => decide (x < y)) 20, px_iload 3, px_push (.int 40000), px_if2 (fun x y => decide (x ≤ y)) 23], 20),
  (20, [false, false, false, false], [px_push (.int (-2)), px_reti], 23),
  (23, [true, true, true, true], [px_aload 0, px_getf 6 0, px_iload 1, px_iald 0, px_push (.int (-1)), px_if2 (fun x y => decide (¬ x = y)) 36, px_push (.int (-11)), px_reti], 36),
  (36, [true, true, true, true], [px_aload 0, px_iload 1, px_iload 2, px_cV X 76 3 6, px_if1 (fun x => decide (¬ x = 0)) 48, px_push (.int (-12)), px_reti], 48),
  (48, [true, true, true, true], [px_aload 0, px_getf 6 2, px_iload 1, px_aald 5, px_iload 2, px_aload 0, px_getf 6 0, px_iload 1, px_iald 0, px_iload 3, px_cS X 73 2, px_iast 0, px_push (.int 1), px_reti], 68)]
set_option maxRecDepth 100000 in
set_option maxHeartbeats 8000000 in
theorem sX6_put (d : Nat) (X : px_X) : px_MS d X YX6_put (kX6_put X) :=
  (ms_cons
  (sb_cons (pc2 := 1) (sx_aload_n (show decode cX6_put 0 = .ok (.aload_n 0, 1) by decide +kernel) rfl) rfl
    (sb_cons (pc2 := 2) (sx_iload_n (show decode cX6_put 1 = .ok (.iload_n 1, 1) by decide +kernel) rfl) rfl
    (sb_cons (pc2 := 5) (sx_cV (Y' := YX6_has) (q := (RX6, TX6, 3)) rfl (show decode cX6_put 2 = .ok (.invokevirtual 23, 3) by decide +kernel) rfl rfl (px_w4 wd_269 wd_270 wd_271 wd_272) wd_268 ⟨by decide, by decide, by decide +kernel⟩ (by decide)) rfl
    (sb_cons (pc2 := 8) (sx_if_eq (show decode cX6_put 5 = .ok (.ifCond .eq 15, 3) by decide +kernel) (by decide)) rfl
    (sb_cons (pc2 := 9) (sx_iload_n (show decode cX6_put 8 = .ok (.iload_n 3, 1) by decide +kernel) rfl) rfl
    (sb_cons (pc2 := 11) (sx_ldc (show decode cX6_put 9 = .ok (.ldc 27, 2) by decide +kernel) wd_273) rfl
    (sb_cons (pc2 := 14) (sx_icmp_lt (show decode cX6_put 11 = .ok (.if_icmp .lt 9, 3) by decide +kernel) (by decide)) rfl
    (sb_cons (pc2 := 15) (sx_iload_n (show decode cX6_put 14 = .ok (.iload_n 3, 1) by decide +kernel) rfl) rfl
    (sb_cons (pc2 := 17) (sx_ldc (show decode cX6_put 15 = .ok (.ldc 28, 2) by decide +kernel) wd_274) rfl
    (sb_cons (pc2 := 20) (sx_icmp_le (show decode cX6_put 17 = .ok (.if_icmp .le 6, 3) by decide +kernel) (by decide)) rfl sb_nil))))))))))
  (ms_cons
  (sb_cons (pc2 := 22) (sx_bipush (show decode cX6_put 20 = .ok (.bipush (-2), 2) by decide +kernel) (by decide)) rfl
    (sb_cons (pc2 := 23) (sx_reti (show decode cX6_put 22 = .ok (.ireturn, 1) by decide +kernel) rfl) rfl sb_nil))
  (ms_cons
  (sb_cons (pc2 := 24) (sx_aload_n (show decode cX6_put 23 = .ok (.aload_n 0, 1) by decide +kernel) rfl) rfl
    (sb_cons (pc2 := 27) (sx_getf (show decode cX6_put 24 = .ok (.getfield 11, 3) by decide +kernel) rfl iX6 (by decide) wd_264) rfl
    (sb_cons (pc2 := 28) (sx_iload_n (show decode cX6_put 27 = .ok (.iload_n 1, 1) by decide +kernel) rfl) rfl
    (sb_cons (pc2 := 29) (sx_iald (show decode cX6_put 28 = .ok (.iaload, 1) by decide +kernel)) rfl
    (sb_cons (pc2 := 30) (sx_iconst (show decode cX6_put 29 = .ok (.iconst (-1), 1) by decide +kernel) (by decide)) rfl
    (sb_cons (pc2 := 33) (sx_icmp_ne (show decode cX6_put 30 = .ok (.if_icmp .ne 6, 3) by decide +kernel) (by decide)) rfl
    (sb_cons (pc2 := 35) (sx_bipush (show decode cX6_put 33 = .ok (.bipush (-11), 2) by decide +kernel) (by decide)) rfl
    (sb_cons (pc2 := 36) (sx_reti (show decode cX6_put 35 = .ok (.ireturn, 1) by decide +kernel) rfl) rfl sb_nil))))))))
  (ms_cons
  (sb_cons (pc2 := 37) (sx_aload_n (show decode cX6_put 36 = .ok (.aload_n 0, 1) by decide +kernel) rfl) rfl
    (sb_cons (pc2 := 38) (sx_iload_n (show decode cX6_put 37 = .ok (.iload_n 1, 1) by decide +kernel) rfl) rfl
    (sb_cons (pc2 := 39) (sx_iload_n (show decode cX6_put 38 = .ok (.iload_n 2, 1) by decide +kernel) rfl) rfl
    (sb_cons (pc2 := 42) (sx_cV (Y' := YX6_holds) (q := (RX6, TX6, 3)) rfl (show decode cX6_put 39 = .ok (.invokevirtual 29, 3) by decide +kernel) rfl rfl (px_w4 wd_276 wd_277 wd_278 wd_272) wd_275 ⟨by decide, by decide, by decide +kernel⟩ (by decide)) rfl
    (sb_cons (pc2 := 45) (sx_if_ne (show decode cX6_put 42 = .ok (.ifCond .ne 6, 3) by decide +kernel) (by decide)) rfl
    (sb_cons (pc2 := 47) (sx_bipush (show decode cX6_put 45 = .ok (.bipush (-12), 2) by decide +kernel) (by decide)) rfl
    (sb_cons (pc2 := 48) (sx_reti (show decode cX6_put 47 = .ok (.ireturn, 1) by decide +kernel) rfl) rfl sb_nil)))))))
  (ms_cons
  (sb_cons (pc2 := 49) (sx_aload_n (show decode cX6_put 48 = .ok (.aload_n 0, 1) by decide +kernel) rfl) rfl
    (sb_cons (pc2 := 52) (sx_getf (show decode cX6_put 49 = .ok (.getfield 20, 3) by decide +kernel) rfl iX6 (by decide) wd_267) rfl
    (sb_cons (pc2 := 53) (sx_iload_n (show decode cX6_put 52 = .ok (.iload_n 1, 1) by decide +kernel) rfl) rfl
    (sb_cons (pc2 := 54) (sx_aaldA (t := 5) (fun _ => rfl) (show decode cX6_put 53 = .ok (.aaload, 1) by decide +kernel)) rfl
    (sb_cons (pc2 := 55) (sx_iload_n (show decode cX6_put 54 = .ok (.iload_n 2, 1) by decide +kernel) rfl) rfl
    (sb_cons (pc2 := 56) (sx_aload_n (show decode cX6_put 55 = .ok (.aload_n 0, 1) by decide +kernel) rfl) rfl
    (sb_cons (pc2 := 59) (sx_getf (show decode cX6_put 56 = .ok (.getfield 11, 3) by decide +kernel) rfl iX6 (by decide) wd_264) rfl
    (sb_cons (pc2 := 60) (sx_iload_n (show decode cX6_put 59 = .ok (.iload_n 1, 1) by decide +kernel) rfl) rfl
    (sb_cons (pc2 := 61) (sx_iald (show decode cX6_put 60 = .ok (.iaload, 1) by decide +kernel)) rfl
    (sb_cons (pc2 := 62) (sx_iload_n (show decode cX6_put 61 = .ok (.iload_n 3, 1) by decide +kernel) rfl) rfl
    (sb_cons (pc2 := 65) (sx_cS (Y' := YX6_cutTo) rfl (show decode cX6_put 62 = .ok (.invokestatic 33, 3) by decide +kernel) rfl (px_w3 wd_280 wd_281 wd_272) wd_279 ⟨by decide, by decide, by decide +kernel⟩ (by decide)) rfl
    (sb_cons (pc2 := 66) (sx_iast (show decode cX6_put 65 = .ok (.iastore, 1) by decide +kernel)) rfl
    (sb_cons (pc2 := 67) (sx_iconst (show decode cX6_put 66 = .ok (.iconst 1, 1) by decide +kernel) (by decide)) rfl
    (sb_cons (pc2 := 68) (sx_reti (show decode cX6_put 67 = .ok (.ireturn, 1) by decide +kernel) rfl) rfl sb_nil))))))))))))))
  ms_nil)))))
def kX6_cutTo (X : px_X) : px_B := [(0, [], [px_iload 0, px_sw [(0, 28), (1, 31)] 34], 28),
  (28, [false, true], [px_iload 1, (px_i1 fun x => x.toInt8.toInt32), px_reti], 31),
  (31, [false, true], [px_iload 1, (px_i1 fun x => x.toInt16.toInt32), px_reti], 34),
  (34, [false, true], [px_iload 1, px_reti], 36)]
set_option maxRecDepth 100000 in
set_option maxHeartbeats 8000000 in
theorem sX6_cutTo (d : Nat) (X : px_X) : px_MS d X YX6_cutTo (kX6_cutTo X) :=
  (ms_cons
  (sb_cons (pc2 := 1) (sx_iload_n (show decode cX6_cutTo 0 = .ok (.iload_n 0, 1) by decide +kernel) rfl) rfl
    (sb_cons (pc2 := 28) (sx_lsw (show decode cX6_cutTo 1 = .ok (.lookupswitch 33 #[(0, 27), (1, 30)], 27) by decide +kernel) (by decide) (by decide) (px_lsw_ok (by decide +kernel))) rfl sb_nil))
  (ms_cons
  (sb_cons (pc2 := 29) (sx_iload_n (show decode cX6_cutTo 28 = .ok (.iload_n 1, 1) by decide +kernel) rfl) rfl
    (sb_cons (pc2 := 30) (sx_i2b (show decode cX6_cutTo 29 = .ok (.i2b, 1) by decide +kernel)) rfl
    (sb_cons (pc2 := 31) (sx_reti (show decode cX6_cutTo 30 = .ok (.ireturn, 1) by decide +kernel) rfl) rfl sb_nil)))
  (ms_cons
  (sb_cons (pc2 := 32) (sx_iload_n (show decode cX6_cutTo 31 = .ok (.iload_n 1, 1) by decide +kernel) rfl) rfl
    (sb_cons (pc2 := 33) (sx_i2s (show decode cX6_cutTo 32 = .ok (.i2s, 1) by decide +kernel)) rfl
    (sb_cons (pc2 := 34) (sx_reti (show decode cX6_cutTo 33 = .ok (.ireturn, 1) by decide +kernel) rfl) rfl sb_nil)))
  (ms_cons
  (sb_cons (pc2 := 35) (sx_iload_n (show decode cX6_cutTo 34 = .ok (.iload_n 1, 1) by decide +kernel) rfl) rfl
    (sb_cons (pc2 := 36) (sx_reti (show decode cX6_cutTo 35 = .ok (.ireturn, 1) by decide +kernel) rfl) rfl sb_nil))
  ms_nil))))
def kX6_wipe (X : px_X) : px_B := [(0, [], [px_aload 0, px_iload 1, px_cV X 70 2 6, px_if1 (fun x => decide (¬ x = 0)) 11, px_push (.int (-2)), px_reti], 11),
  (11, [true, true, true, false], [px_aload 0, px_iload 1, px_cV X 75 2 6, px_istore 3, px_iload 3, px_if1 (fun x => decide (x = 0)) 23, px_iload 3, px_reti], 23),
  (23, [true, true, true, false], [px_aload 0, px_iload 1, px_iload 2, px_cV X 76 3 6, px_if1 (fun x => decide (¬ x = 0)) 35, px_push (.int (-12)), px_reti], 35),
  (35, [true, true, true, false], [px_aload 0, px_getf 6 2, px_iload 1, px_aald 5, px_iload 2, px_push (.int 40001), px_iast 0, px_push (.int 1), px_reti], 47)]
set_option maxRecDepth 100000 in
set_option maxHeartbeats 8000000 in
theorem sX6_wipe (d : Nat) (X : px_X) : px_MS d X YX6_wipe (kX6_wipe X) :=
  (ms_cons
  (sb_cons (pc2 := 1) (sx_aload_n (show decode cX6_wipe 0 = .ok (.aload_n 0, 1) by decide +kernel) rfl) rfl
    (sb_cons (pc2 := 2) (sx_iload_n (show decode cX6_wipe 1 = .ok (.iload_n 1, 1) by decide +kernel) rfl) rfl
    (sb_cons (pc2 := 5) (sx_cV (Y' := YX6_has) (q := (RX6, TX6, 3)) rfl (show decode cX6_wipe 2 = .ok (.invokevirtual 23, 3) by decide +kernel) rfl rfl (px_w4 wd_269 wd_270 wd_271 wd_272) wd_268 ⟨by decide, by decide, by decide +kernel⟩ (by decide)) rfl
    (sb_cons (pc2 := 8) (sx_if_ne (show decode cX6_wipe 5 = .ok (.ifCond .ne 6, 3) by decide +kernel) (by decide)) rfl
    (sb_cons (pc2 := 10) (sx_bipush (show decode cX6_wipe 8 = .ok (.bipush (-2), 2) by decide +kernel) (by decide)) rfl
    (sb_cons (pc2 := 11) (sx_reti (show decode cX6_wipe 10 = .ok (.ireturn, 1) by decide +kernel) rfl) rfl sb_nil))))))
  (ms_cons
  (sb_cons (pc2 := 12) (sx_aload_n (show decode cX6_wipe 11 = .ok (.aload_n 0, 1) by decide +kernel) rfl) rfl
    (sb_cons (pc2 := 13) (sx_iload_n (show decode cX6_wipe 12 = .ok (.iload_n 1, 1) by decide +kernel) rfl) rfl
    (sb_cons (pc2 := 16) (sx_cV (Y' := YX6_floatsRefusal) (q := (RX6, TX6, 3)) rfl (show decode cX6_wipe 13 = .ok (.invokevirtual 37, 3) by decide +kernel) rfl rfl (px_w4 wd_283 wd_284 wd_285 wd_272) wd_282 ⟨by decide, by decide, by decide +kernel⟩ (by decide)) rfl
    (sb_cons (pc2 := 17) (sx_istore_n (show decode cX6_wipe 16 = .ok (.istore_n 3, 1) by decide +kernel) rfl) rfl
    (sb_cons (pc2 := 18) (sx_iload_n (show decode cX6_wipe 17 = .ok (.iload_n 3, 1) by decide +kernel) rfl) rfl
    (sb_cons (pc2 := 21) (sx_if_eq (show decode cX6_wipe 18 = .ok (.ifCond .eq 5, 3) by decide +kernel) (by decide)) rfl
    (sb_cons (pc2 := 22) (sx_iload_n (show decode cX6_wipe 21 = .ok (.iload_n 3, 1) by decide +kernel) rfl) rfl
    (sb_cons (pc2 := 23) (sx_reti (show decode cX6_wipe 22 = .ok (.ireturn, 1) by decide +kernel) rfl) rfl sb_nil))))))))
  (ms_cons
  (sb_cons (pc2 := 24) (sx_aload_n (show decode cX6_wipe 23 = .ok (.aload_n 0, 1) by decide +kernel) rfl) rfl
    (sb_cons (pc2 := 25) (sx_iload_n (show decode cX6_wipe 24 = .ok (.iload_n 1, 1) by decide +kernel) rfl) rfl
    (sb_cons (pc2 := 26) (sx_iload_n (show decode cX6_wipe 25 = .ok (.iload_n 2, 1) by decide +kernel) rfl) rfl
    (sb_cons (pc2 := 29) (sx_cV (Y' := YX6_holds) (q := (RX6, TX6, 3)) rfl (show decode cX6_wipe 26 = .ok (.invokevirtual 29, 3) by decide +kernel) rfl rfl (px_w4 wd_276 wd_277 wd_278 wd_272) wd_275 ⟨by decide, by decide, by decide +kernel⟩ (by decide)) rfl
    (sb_cons (pc2 := 32) (sx_if_ne (show decode cX6_wipe 29 = .ok (.ifCond .ne 6, 3) by decide +kernel) (by decide)) rfl
    (sb_cons (pc2 := 34) (sx_bipush (show decode cX6_wipe 32 = .ok (.bipush (-12), 2) by decide +kernel) (by decide)) rfl
    (sb_cons (pc2 := 35) (sx_reti (show decode cX6_wipe 34 = .ok (.ireturn, 1) by decide +kernel) rfl) rfl sb_nil)))))))
  (ms_cons
  (sb_cons (pc2 := 36) (sx_aload_n (show decode cX6_wipe 35 = .ok (.aload_n 0, 1) by decide +kernel) rfl) rfl
    (sb_cons (pc2 := 39) (sx_getf (show decode cX6_wipe 36 = .ok (.getfield 20, 3) by decide +kernel) rfl iX6 (by decide) wd_267) rfl
    (sb_cons (pc2 := 40) (sx_iload_n (show decode cX6_wipe 39 = .ok (.iload_n 1, 1) by decide +kernel) rfl) rfl
    (sb_cons (pc2 := 41) (sx_aaldA (t := 5) (fun _ => rfl) (show decode cX6_wipe 40 = .ok (.aaload, 1) by decide +kernel)) rfl
    (sb_cons (pc2 := 42) (sx_iload_n (show decode cX6_wipe 41 = .ok (.iload_n 2, 1) by decide +kernel) rfl) rfl
    (sb_cons (pc2 := 44) (sx_ldc (show decode cX6_wipe 42 = .ok (.ldc 41, 2) by decide +kernel) wd_286) rfl
    (sb_cons (pc2 := 45) (sx_iast (show decode cX6_wipe 44 = .ok (.iastore, 1) by decide +kernel)) rfl
    (sb_cons (pc2 := 46) (sx_iconst (show decode cX6_wipe 45 = .ok (.iconst 1, 1) by decide +kernel) (by decide)) rfl
    (sb_cons (pc2 := 47) (sx_reti (show decode cX6_wipe 46 = .ok (.ireturn, 1) by decide +kernel) rfl) rfl sb_nil)))))))))
  ms_nil))))
def kX6_floatsRefusal (X : px_X) : px_B := [(0, [], [px_aload 0, px_getf 6 0, px_iload 1, px_iald 0, px_push (.int (-1)), px_if2 (fun x y => decide (¬ x = y)) 13, px_push (.int (-11)), px_reti], 13),
  (13, [true, true], [px_aload 0, px_getf 6 0, px_iload 1, px_iald 0, px_push (.int 2), px_if2 (fun x y => decide (¬ x = y)) 27, px_push (.int 0), px_goto 29], 27),
  (27, [false, false], [px_push (.int (-13))], 29),
  (29, [false, false], [px_reti], 30)]
set_option maxRecDepth 100000 in
set_option maxHeartbeats 8000000 in
theorem sX6_floatsRefusal (d : Nat) (X : px_X) : px_MS d X YX6_floatsRefusal (kX6_floatsRefusal X) :=
  (ms_cons
  (sb_cons (pc2 := 1) (sx_aload_n (show decode cX6_floatsRefusal 0 = .ok (.aload_n 0, 1) by decide +kernel) rfl) rfl
    (sb_cons (pc2 := 4) (sx_getf (show decode cX6_floatsRefusal 1 = .ok (.getfield 11, 3) by decide +kernel) rfl iX6 (by decide) wd_264) rfl
    (sb_cons (pc2 := 5) (sx_iload_n (show decode cX6_floatsRefusal 4 = .ok (.iload_n 1, 1) by decide +kernel) rfl) rfl
    (sb_cons (pc2 := 6) (sx_iald (show decode cX6_floatsRefusal 5 = .ok (.iaload, 1) by decide +kernel)) rfl
    (sb_cons (pc2 := 7) (sx_iconst (show decode cX6_floatsRefusal 6 = .ok (.iconst (-1), 1) by decide +kernel) (by decide)) rfl
    (sb_cons (pc2 := 10) (sx_icmp_ne (show decode cX6_floatsRefusal 7 = .ok (.if_icmp .ne 6, 3) by decide +kernel) (by decide)) rfl
    (sb_cons (pc2 := 12) (sx_bipush (show decode cX6_floatsRefusal 10 = .ok (.bipush (-11), 2) by decide +kernel) (by decide)) rfl
    (sb_cons (pc2 := 13) (sx_reti (show decode cX6_floatsRefusal 12 = .ok (.ireturn, 1) by decide +kernel) rfl) rfl sb_nil))))))))
  (ms_cons
  (sb_cons (pc2 := 14) (sx_aload_n (show decode cX6_floatsRefusal 13 = .ok (.aload_n 0, 1) by decide +kernel) rfl) rfl
    (sb_cons (pc2 := 17) (sx_getf (show decode cX6_floatsRefusal 14 = .ok (.getfield 11, 3) by decide +kernel) rfl iX6 (by decide) wd_264) rfl
    (sb_cons (pc2 := 18) (sx_iload_n (show decode cX6_floatsRefusal 17 = .ok (.iload_n 1, 1) by decide +kernel) rfl) rfl
    (sb_cons (pc2 := 19) (sx_iald (show decode cX6_floatsRefusal 18 = .ok (.iaload, 1) by decide +kernel)) rfl
    (sb_cons (pc2 := 20) (sx_iconst (show decode cX6_floatsRefusal 19 = .ok (.iconst 2, 1) by decide +kernel) (by decide)) rfl
    (sb_cons (pc2 := 23) (sx_icmp_ne (show decode cX6_floatsRefusal 20 = .ok (.if_icmp .ne 7, 3) by decide +kernel) (by decide)) rfl
    (sb_cons (pc2 := 24) (sx_iconst (show decode cX6_floatsRefusal 23 = .ok (.iconst 0, 1) by decide +kernel) (by decide)) rfl
    (sb_cons (pc2 := 27) (px_snd_goto (show decode cX6_floatsRefusal 24 = .ok (.goto 5, 3) by decide +kernel) (by decide)) rfl sb_nil))))))))
  (ms_cons
  (sb_cons (pc2 := 29) (sx_bipush (show decode cX6_floatsRefusal 27 = .ok (.bipush (-13), 2) by decide +kernel) (by decide)) rfl sb_nil)
  (ms_cons
  (sb_cons (pc2 := 30) (sx_reti (show decode cX6_floatsRefusal 29 = .ok (.ireturn, 1) by decide +kernel) rfl) rfl sb_nil)
  ms_nil))))
def kX6_holds (X : px_X) : px_B := [(0, [], [px_iload 2, px_if1 (fun x => decide (x < 0)) 18, px_iload 2, px_aload 0, px_getf 6 1, px_iload 1, px_iald 0, px_if2 (fun x y => decide (y ≤ x)) 18, px_push (.int 1), px_goto 19], 18),
  (18, [false, false, false], [px_push (.int 0)], 19),
  (19, [false, false, false], [px_retz], 20)]
set_option maxRecDepth 100000 in
set_option maxHeartbeats 8000000 in
theorem sX6_holds (d : Nat) (X : px_X) : px_MS d X YX6_holds (kX6_holds X) :=
  (ms_cons
  (sb_cons (pc2 := 1) (sx_iload_n (show decode cX6_holds 0 = .ok (.iload_n 2, 1) by decide +kernel) rfl) rfl
    (sb_cons (pc2 := 4) (sx_if_lt (show decode cX6_holds 1 = .ok (.ifCond .lt 17, 3) by decide +kernel) (by decide)) rfl
    (sb_cons (pc2 := 5) (sx_iload_n (show decode cX6_holds 4 = .ok (.iload_n 2, 1) by decide +kernel) rfl) rfl
    (sb_cons (pc2 := 6) (sx_aload_n (show decode cX6_holds 5 = .ok (.aload_n 0, 1) by decide +kernel) rfl) rfl
    (sb_cons (pc2 := 9) (sx_getf (show decode cX6_holds 6 = .ok (.getfield 15, 3) by decide +kernel) rfl iX6 (by decide) wd_265) rfl
    (sb_cons (pc2 := 10) (sx_iload_n (show decode cX6_holds 9 = .ok (.iload_n 1, 1) by decide +kernel) rfl) rfl
    (sb_cons (pc2 := 11) (sx_iald (show decode cX6_holds 10 = .ok (.iaload, 1) by decide +kernel)) rfl
    (sb_cons (pc2 := 14) (sx_icmp_ge (show decode cX6_holds 11 = .ok (.if_icmp .ge 7, 3) by decide +kernel) (by decide)) rfl
    (sb_cons (pc2 := 15) (sx_iconst (show decode cX6_holds 14 = .ok (.iconst 1, 1) by decide +kernel) (by decide)) rfl
    (sb_cons (pc2 := 18) (px_snd_goto (show decode cX6_holds 15 = .ok (.goto 4, 3) by decide +kernel) (by decide)) rfl sb_nil))))))))))
  (ms_cons
  (sb_cons (pc2 := 19) (sx_iconst (show decode cX6_holds 18 = .ok (.iconst 0, 1) by decide +kernel) (by decide)) rfl sb_nil)
  (ms_cons
  (sb_cons (pc2 := 20) (sx_retz (show decode cX6_holds 19 = .ok (.ireturn, 1) by decide +kernel) rfl) rfl sb_nil)
  ms_nil)))
def kX6_isNumber (X : px_X) : px_B := [(0, [], [px_aload 0, px_getf 6 2, px_iload 1, px_aald 5, px_iload 2, px_iald 0, px_push (.int 40001), px_if2 (fun x y => decide (x = y)) 17, px_push (.int 1), px_goto 18], 17),
  (17, [false, false, false], [px_push (.int 0)], 18),
  (18, [false, false, false], [px_retz], 19)]
set_option maxRecDepth 100000 in
set_option maxHeartbeats 8000000 in
theorem sX6_isNumber (d : Nat) (X : px_X) : px_MS d X YX6_isNumber (kX6_isNumber X) :=
  (ms_cons
  (sb_cons (pc2 := 1) (sx_aload_n (show decode cX6_isNumber 0 = .ok (.aload_n 0, 1) by decide +kernel) rfl) rfl
    (sb_cons (pc2 := 4) (sx_getf (show decode cX6_isNumber 1 = .ok (.getfield 20, 3) by decide +kernel) rfl iX6 (by decide) wd_267) rfl
    (sb_cons (pc2 := 5) (sx_iload_n (show decode cX6_isNumber 4 = .ok (.iload_n 1, 1) by decide +kernel) rfl) rfl
    (sb_cons (pc2 := 6) (sx_aaldA (t := 5) (fun _ => rfl) (show decode cX6_isNumber 5 = .ok (.aaload, 1) by decide +kernel)) rfl
    (sb_cons (pc2 := 7) (sx_iload_n (show decode cX6_isNumber 6 = .ok (.iload_n 2, 1) by decide +kernel) rfl) rfl
    (sb_cons (pc2 := 8) (sx_iald (show decode cX6_isNumber 7 = .ok (.iaload, 1) by decide +kernel)) rfl
    (sb_cons (pc2 := 10) (sx_ldc (show decode cX6_isNumber 8 = .ok (.ldc 41, 2) by decide +kernel) wd_286) rfl
    (sb_cons (pc2 := 13) (sx_icmp_eq (show decode cX6_isNumber 10 = .ok (.if_icmp .eq 7, 3) by decide +kernel) (by decide)) rfl
    (sb_cons (pc2 := 14) (sx_iconst (show decode cX6_isNumber 13 = .ok (.iconst 1, 1) by decide +kernel) (by decide)) rfl
    (sb_cons (pc2 := 17) (px_snd_goto (show decode cX6_isNumber 14 = .ok (.goto 4, 3) by decide +kernel) (by decide)) rfl sb_nil))))))))))
  (ms_cons
  (sb_cons (pc2 := 18) (sx_iconst (show decode cX6_isNumber 17 = .ok (.iconst 0, 1) by decide +kernel) (by decide)) rfl sb_nil)
  (ms_cons
  (sb_cons (pc2 := 19) (sx_retz (show decode cX6_isNumber 18 = .ok (.ireturn, 1) by decide +kernel) rfl) rfl sb_nil)
  ms_nil)))
def kX6_whole (X : px_X) : px_B := [(0, [], [px_aload 0, px_getf 6 2, px_iload 1, px_aald 5, px_iload 2, px_iald 0, px_push (.int 2), (px_i2d fun x y => x / y), px_reti], 11)]
set_option maxRecDepth 100000 in
set_option maxHeartbeats 8000000 in
theorem sX6_whole (d : Nat) (X : px_X) : px_MS d X YX6_whole (kX6_whole X) :=
  (ms_cons
  (sb_cons (pc2 := 1) (sx_aload_n (show decode cX6_whole 0 = .ok (.aload_n 0, 1) by decide +kernel) rfl) rfl
    (sb_cons (pc2 := 4) (sx_getf (show decode cX6_whole 1 = .ok (.getfield 20, 3) by decide +kernel) rfl iX6 (by decide) wd_267) rfl
    (sb_cons (pc2 := 5) (sx_iload_n (show decode cX6_whole 4 = .ok (.iload_n 1, 1) by decide +kernel) rfl) rfl
    (sb_cons (pc2 := 6) (sx_aaldA (t := 5) (fun _ => rfl) (show decode cX6_whole 5 = .ok (.aaload, 1) by decide +kernel)) rfl
    (sb_cons (pc2 := 7) (sx_iload_n (show decode cX6_whole 6 = .ok (.iload_n 2, 1) by decide +kernel) rfl) rfl
    (sb_cons (pc2 := 8) (sx_iald (show decode cX6_whole 7 = .ok (.iaload, 1) by decide +kernel)) rfl
    (sb_cons (pc2 := 9) (sx_iconst (show decode cX6_whole 8 = .ok (.iconst 2, 1) by decide +kernel) (by decide)) rfl
    (sb_cons (pc2 := 10) (sx_idiv (show decode cX6_whole 9 = .ok (.idiv, 1) by decide +kernel)) rfl
    (sb_cons (pc2 := 11) (sx_reti (show decode cX6_whole 10 = .ok (.ireturn, 1) by decide +kernel) rfl) rfl sb_nil)))))))))
  ms_nil)
