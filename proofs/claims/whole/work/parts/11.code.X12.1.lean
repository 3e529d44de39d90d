/-! the code of methods as pure instructions (written by wip/whole/gen.py) -/
def kX12_tank (X : px_X) : px_B := [(0, [], [px_iload 1, px_push (.int 0), px_push (.int 5), px_cS X 165 3, px_if1 (fun x => decide (x = 0)) 19, px_iload 2, px_push (.int 1), px_push (.int 40), px_cS X 165 3, px_if1 (fun x => decide (¬ x = 0)) 22], 19),
  (19, [false, false, false], [px_push (.int (-2)), px_reti], 22),
  (22, [true, true, true], [px_aload 0, px_getf 12 22, px_push (.int 6), px_if2 (fun x y => decide (¬ x = y)) 34, px_push (.int (-4)), px_reti], 34),
  (34, [true, true, true], [px_aload 0, px_getf 12 23, px_aload 0, px_getf 12 22, px_iload 1, px_iast 0, px_aload 0, px_getf 12 24, px_aload 0, px_getf 12 22, px_iload 2, px_iast 0, px_aload 0, px_dup, px_getf 12 22, px_push (.int 1), (px_i2 fun x y => x + y), px_puti 12 22, px_aload 0, px_getf 12 22, px_push (.int 1), (px_i2 fun x y => x - y), px_reti], 71)]
set_option maxRecDepth 100000 in
set_option maxHeartbeats 8000000 in
theorem sX12_tank (d : Nat) (X : px_X) : px_MS d X YX12_tank (kX12_tank X) :=
  (ms_cons
  (sb_cons (pc2 := 1) (sx_iload_n (show decode cX12_tank 0 = .ok (.iload_n 1, 1) by decide +kernel) rfl) rfl
    (sb_cons (pc2 := 2) (sx_iconst (show decode cX12_tank 1 = .ok (.iconst 0, 1) by decide +kernel) (by decide)) rfl
    (sb_cons (pc2 := 3) (sx_iconst (show decode cX12_tank 2 = .ok (.iconst 5, 1) by decide +kernel) (by decide)) rfl
    (sb_cons (pc2 := 6) (sx_cS (Y' := YX12_in) rfl (show decode cX12_tank 3 = .ok (.invokestatic 147, 3) by decide +kernel) rfl (px_w3 wd_717 wd_718 wd_719) wd_716 ⟨by decide, by decide, by decide +kernel⟩ (by decide)) rfl
    (sb_cons (pc2 := 9) (sx_if_eq (show decode cX12_tank 6 = .ok (.ifCond .eq 13, 3) by decide +kernel) (by decide)) rfl
    (sb_cons (pc2 := 10) (sx_iload_n (show decode cX12_tank 9 = .ok (.iload_n 2, 1) by decide +kernel) rfl) rfl
    (sb_cons (pc2 := 11) (sx_iconst (show decode cX12_tank 10 = .ok (.iconst 1, 1) by decide +kernel) (by decide)) rfl
    (sb_cons (pc2 := 13) (sx_bipush (show decode cX12_tank 11 = .ok (.bipush 40, 2) by decide +kernel) (by decide)) rfl
    (sb_cons (pc2 := 16) (sx_cS (Y' := YX12_in) rfl (show decode cX12_tank 13 = .ok (.invokestatic 147, 3) by decide +kernel) rfl (px_w3 wd_717 wd_718 wd_719) wd_716 ⟨by decide, by decide, by decide +kernel⟩ (by decide)) rfl
    (sb_cons (pc2 := 19) (sx_if_ne (show decode cX12_tank 16 = .ok (.ifCond .ne 6, 3) by decide +kernel) (by decide)) rfl sb_nil))))))))))
  (ms_cons
  (sb_cons (pc2 := 21) (sx_bipush (show decode cX12_tank 19 = .ok (.bipush (-2), 2) by decide +kernel) (by decide)) rfl
    (sb_cons (pc2 := 22) (sx_reti (show decode cX12_tank 21 = .ok (.ireturn, 1) by decide +kernel) rfl) rfl sb_nil))
  (ms_cons
  (sb_cons (pc2 := 23) (sx_aload_n (show decode cX12_tank 22 = .ok (.aload_n 0, 1) by decide +kernel) rfl) rfl
    (sb_cons (pc2 := 26) (sx_getf (show decode cX12_tank 23 = .ok (.getfield 205, 3) by decide +kernel) rfl iX12 (by decide) wd_772) rfl
    (sb_cons (pc2 := 28) (sx_bipush (show decode cX12_tank 26 = .ok (.bipush 6, 2) by decide +kernel) (by decide)) rfl
    (sb_cons (pc2 := 31) (sx_icmp_ne (show decode cX12_tank 28 = .ok (.if_icmp .ne 6, 3) by decide +kernel) (by decide)) rfl
    (sb_cons (pc2 := 33) (sx_bipush (show decode cX12_tank 31 = .ok (.bipush (-4), 2) by decide +kernel) (by decide)) rfl
    (sb_cons (pc2 := 34) (sx_reti (show decode cX12_tank 33 = .ok (.ireturn, 1) by decide +kernel) rfl) rfl sb_nil))))))
  (ms_cons
  (sb_cons (pc2 := 35) (sx_aload_n (show decode cX12_tank 34 = .ok (.aload_n 0, 1) by decide +kernel) rfl) rfl
    (sb_cons (pc2 := 38) (sx_getf (show decode cX12_tank 35 = .ok (.getfield 66, 3) by decide +kernel) rfl iX12 (by decide) wd_689) rfl
    (sb_cons (pc2 := 39) (sx_aload_n (show decode cX12_tank 38 = .ok (.aload_n 0, 1) by decide +kernel) rfl) rfl
    (sb_cons (pc2 := 42) (sx_getf (show decode cX12_tank 39 = .ok (.getfield 205, 3) by decide +kernel) rfl iX12 (by decide) wd_772) rfl
    (sb_cons (pc2 := 43) (sx_iload_n (show decode cX12_tank 42 = .ok (.iload_n 1, 1) by decide +kernel) rfl) rfl
    (sb_cons (pc2 := 44) (sx_iast (show decode cX12_tank 43 = .ok (.iastore, 1) by decide +kernel)) rfl
    (sb_cons (pc2 := 45) (sx_aload_n (show decode cX12_tank 44 = .ok (.aload_n 0, 1) by decide +kernel) rfl) rfl
    (sb_cons (pc2 := 48) (sx_getf (show decode cX12_tank 45 = .ok (.getfield 69, 3) by decide +kernel) rfl iX12 (by decide) wd_690) rfl
    (sb_cons (pc2 := 49) (sx_aload_n (show decode cX12_tank 48 = .ok (.aload_n 0, 1) by decide +kernel) rfl) rfl
    (sb_cons (pc2 := 52) (sx_getf (show decode cX12_tank 49 = .ok (.getfield 205, 3) by decide +kernel) rfl iX12 (by decide) wd_772) rfl
    (sb_cons (pc2 := 53) (sx_iload_n (show decode cX12_tank 52 = .ok (.iload_n 2, 1) by decide +kernel) rfl) rfl
    (sb_cons (pc2 := 54) (sx_iast (show decode cX12_tank 53 = .ok (.iastore, 1) by decide +kernel)) rfl
    (sb_cons (pc2 := 55) (sx_aload_n (show decode cX12_tank 54 = .ok (.aload_n 0, 1) by decide +kernel) rfl) rfl
    (sb_cons (pc2 := 56) (sx_dup (show decode cX12_tank 55 = .ok (.dup, 1) by decide +kernel)) rfl
    (sb_cons (pc2 := 59) (sx_getf (show decode cX12_tank 56 = .ok (.getfield 205, 3) by decide +kernel) rfl iX12 (by decide) wd_772) rfl
    (sb_cons (pc2 := 60) (sx_iconst (show decode cX12_tank 59 = .ok (.iconst 1, 1) by decide +kernel) (by decide)) rfl
    (sb_cons (pc2 := 61) (sx_iadd (show decode cX12_tank 60 = .ok (.iadd, 1) by decide +kernel)) rfl
    (sb_cons (pc2 := 64) (sx_puti (show decode cX12_tank 61 = .ok (.putfield 205, 3) by decide +kernel) rfl iX12 tyX12_ok nmX12 (by decide) wd_772 rfl (Or.inl rfl)) rfl
    (sb_cons (pc2 := 65) (sx_aload_n (show decode cX12_tank 64 = .ok (.aload_n 0, 1) by decide +kernel) rfl) rfl
    (sb_cons (pc2 := 68) (sx_getf (show decode cX12_tank 65 = .ok (.getfield 205, 3) by decide +kernel) rfl iX12 (by decide) wd_772) rfl
    (sb_cons (pc2 := 69) (sx_iconst (show decode cX12_tank 68 = .ok (.iconst 1, 1) by decide +kernel) (by decide)) rfl
    (sb_cons (pc2 := 70) (sx_isub (show decode cX12_tank 69 = .ok (.isub, 1) by decide +kernel)) rfl
    (sb_cons (pc2 := 71) (sx_reti (show decode cX12_tank 70 = .ok (.ireturn, 1) by decide +kernel) rfl) rfl sb_nil)))))))))))))))))))))))
  ms_nil))))
def kX12_inTank (X : px_X) : px_B := [(0, [], [px_push (.int 0), px_istore 3, px_push (.int 0), px_istore 4], 5),
  (5, [true, true, true, true, true], [px_iload 4, px_aload 0, px_getf 12 13, px_if2 (fun x y => decide (y ≤ x)) 53, px_iload 3, px_aload 0, px_getf 12 20, px_iload 4, px_iald 0, px_iload 1, px_if2 (fun x y => decide (x = y)) 30, px_push (.int 0), px_goto 45], 30),
  (30, [true, true, true, false, true], [px_iload 2, px_if1 (fun x => decide (x = 0)) 44, px_aload 0, px_getf 12 17, px_iload 4, px_iald 0, px_goto 45], 44),
  (44, [true, true, true, false, true], [px_push (.int 1)], 45),
  (45, [true, true, true, false, true], [(px_i2 fun x y => x + y), px_istore 3, px_iinc 4 1, px_goto 5], 53),
  (53, [false, false, false, true, false], [px_iload 3, px_reti], 55)]
set_option maxRecDepth 100000 in
set_option maxHeartbeats 8000000 in
theorem sX12_inTank (d : Nat) (X : px_X) : px_MS d X YX12_inTank (kX12_inTank X) :=
  (ms_cons
  (sb_cons (pc2 := 1) (sx_iconst (show decode cX12_inTank 0 = .ok (.iconst 0, 1) by decide +kernel) (by decide)) rfl
    (sb_cons (pc2 := 2) (sx_istore_n (show decode cX12_inTank 1 = .ok (.istore_n 3, 1) by decide +kernel) rfl) rfl
    (sb_cons (pc2 := 3) (sx_iconst (show decode cX12_inTank 2 = .ok (.iconst 0, 1) by decide +kernel) (by decide)) rfl
    (sb_cons (pc2 := 5) (sx_istore (show decode cX12_inTank 3 = .ok (.istore 4, 2) by decide +kernel)) rfl sb_nil))))
  (ms_cons
  (sb_cons (pc2 := 7) (sx_iload (show decode cX12_inTank 5 = .ok (.iload 4, 2) by decide +kernel)) rfl
    (sb_cons (pc2 := 8) (sx_aload_n (show decode cX12_inTank 7 = .ok (.aload_n 0, 1) by decide +kernel) rfl) rfl
    (sb_cons (pc2 := 11) (sx_getf (show decode cX12_inTank 8 = .ok (.getfield 151, 3) by decide +kernel) rfl iX12 (by decide) wd_720) rfl
    (sb_cons (pc2 := 14) (sx_icmp_ge (show decode cX12_inTank 11 = .ok (.if_icmp .ge 42, 3) by decide +kernel) (by decide)) rfl
    (sb_cons (pc2 := 15) (sx_iload_n (show decode cX12_inTank 14 = .ok (.iload_n 3, 1) by decide +kernel) rfl) rfl
    (sb_cons (pc2 := 16) (sx_aload_n (show decode cX12_inTank 15 = .ok (.aload_n 0, 1) by decide +kernel) rfl) rfl
    (sb_cons (pc2 := 19) (sx_getf (show decode cX12_inTank 16 = .ok (.getfield 60, 3) by decide +kernel) rfl iX12 (by decide) wd_687) rfl
    (sb_cons (pc2 := 21) (sx_iload (show decode cX12_inTank 19 = .ok (.iload 4, 2) by decide +kernel)) rfl
    (sb_cons (pc2 := 22) (sx_iald (show decode cX12_inTank 21 = .ok (.iaload, 1) by decide +kernel)) rfl
    (sb_cons (pc2 := 23) (sx_iload_n (show decode cX12_inTank 22 = .ok (.iload_n 1, 1) by decide +kernel) rfl) rfl
    (sb_cons (pc2 := 26) (sx_icmp_eq (show decode cX12_inTank 23 = .ok (.if_icmp .eq 7, 3) by decide +kernel) (by decide)) rfl
    (sb_cons (pc2 := 27) (sx_iconst (show decode cX12_inTank 26 = .ok (.iconst 0, 1) by decide +kernel) (by decide)) rfl
    (sb_cons (pc2 := 30) (px_snd_goto (show decode cX12_inTank 27 = .ok (.goto 18, 3) by decide +kernel) (by decide)) rfl sb_nil)))))))))))))
  (ms_cons
  (sb_cons (pc2 := 31) (sx_iload_n (show decode cX12_inTank 30 = .ok (.iload_n 2, 1) by decide +kernel) rfl) rfl
    (sb_cons (pc2 := 34) (sx_if_eq (show decode cX12_inTank 31 = .ok (.ifCond .eq 13, 3) by decide +kernel) (by decide)) rfl
    (sb_cons (pc2 := 35) (sx_aload_n (show decode cX12_inTank 34 = .ok (.aload_n 0, 1) by decide +kernel) rfl) rfl
    (sb_cons (pc2 := 38) (sx_getf (show decode cX12_inTank 35 = .ok (.getfield 51, 3) by decide +kernel) rfl iX12 (by decide) wd_684) rfl
    (sb_cons (pc2 := 40) (sx_iload (show decode cX12_inTank 38 = .ok (.iload 4, 2) by decide +kernel)) rfl
    (sb_cons (pc2 := 41) (sx_iald (show decode cX12_inTank 40 = .ok (.iaload, 1) by decide +kernel)) rfl
    (sb_cons (pc2 := 44) (px_snd_goto (show decode cX12_inTank 41 = .ok (.goto 4, 3) by decide +kernel) (by decide)) rfl sb_nil)))))))
  (ms_cons
  (sb_cons (pc2 := 45) (sx_iconst (show decode cX12_inTank 44 = .ok (.iconst 1, 1) by decide +kernel) (by decide)) rfl sb_nil)
  (ms_cons
  (sb_cons (pc2 := 46) (sx_iadd (show decode cX12_inTank 45 = .ok (.iadd, 1) by decide +kernel)) rfl
    (sb_cons (pc2 := 47) (sx_istore_n (show decode cX12_inTank 46 = .ok (.istore_n 3, 1) by decide +kernel) rfl) rfl
    (sb_cons (pc2 := 50) (sx_iinc (show decode cX12_inTank 47 = .ok (.iinc 4 1, 3) by decide +kernel) (by decide)) rfl
    (sb_cons (pc2 := 53) (px_snd_goto (show decode cX12_inTank 50 = .ok (.goto (-45), 3) by decide +kernel) (by decide)) rfl sb_nil))))
  (ms_cons
  (sb_cons (pc2 := 54) (sx_iload_n (show decode cX12_inTank 53 = .ok (.iload_n 3, 1) by decide +kernel) rfl) rfl
    (sb_cons (pc2 := 55) (sx_reti (show decode cX12_inTank 54 = .ok (.ireturn, 1) by decide +kernel) rfl) rfl sb_nil))
  ms_nil))))))
def kX12_tankTold (X : px_X) : px_B := [(0, [], [px_iload 1, px_push (.int 0), px_aload 0, px_getf 12 22, px_push (.int 1), (px_i2 fun x y => x - y), px_cS X 165 3, px_if1 (fun x => decide (x = 0)) 23, px_iload 2, px_push (.int 0), px_push (.int 3), px_cS X 165 3, px_if1 (fun x => decide (¬ x = 0)) 26], 23),
  (23, [false, false, false], [px_push (.int (-2)), px_reti], 26),
  (26, [true, true, true], [px_iload 2, px_if1 (fun x => decide (¬ x = 0)) 39, px_aload 0, px_getf 12 23, px_iload 1, px_iald 0, px_goto 68], 39),
  (39, [true, true, true], [px_iload 2, px_push (.int 1), px_if2 (fun x y => decide (¬ x = y)) 53, px_aload 0, px_getf 12 24, px_iload 1, px_iald 0, px_goto 68], 53),
  (53, [true, true, true], [px_aload 0, px_iload 1, px_iload 2, px_push (.int 2), px_if2 (fun x y => decide (¬ x = y)) 64, px_push (.int 1), px_goto 65], 64),
  (64, [false, false, false], [px_push (.int 0)], 65),
  (65, [false, false, false], [px_cV X 188 3 12], 68),
  (68, [false, false, false], [px_reti], 69)]
set_option maxRecDepth 100000 in
set_option maxHeartbeats 8000000 in
theorem sX12_tankTold (d : Nat) (X : px_X) : px_MS d X YX12_tankTold (kX12_tankTold X) :=
  (ms_cons
  (sb_cons (pc2 := 1) (sx_iload_n (show decode cX12_tankTold 0 = .ok (.iload_n 1, 1) by decide +kernel) rfl) rfl
    (sb_cons (pc2 := 2) (sx_iconst (show decode cX12_tankTold 1 = .ok (.iconst 0, 1) by decide +kernel) (by decide)) rfl
    (sb_cons (pc2 := 3) (sx_aload_n (show decode cX12_tankTold 2 = .ok (.aload_n 0, 1) by decide +kernel) rfl) rfl
    (sb_cons (pc2 := 6) (sx_getf (show decode cX12_tankTold 3 = .ok (.getfield 205, 3) by decide +kernel) rfl iX12 (by decide) wd_772) rfl
    (sb_cons (pc2 := 7) (sx_iconst (show decode cX12_tankTold 6 = .ok (.iconst 1, 1) by decide +kernel) (by decide)) rfl
    (sb_cons (pc2 := 8) (sx_isub (show decode cX12_tankTold 7 = .ok (.isub, 1) by decide +kernel)) rfl
    (sb_cons (pc2 := 11) (sx_cS (Y' := YX12_in) rfl (show decode cX12_tankTold 8 = .ok (.invokestatic 147, 3) by decide +kernel) rfl (px_w3 wd_717 wd_718 wd_719) wd_716 ⟨by decide, by decide, by decide +kernel⟩ (by decide)) rfl
    (sb_cons (pc2 := 14) (sx_if_eq (show decode cX12_tankTold 11 = .ok (.ifCond .eq 12, 3) by decide +kernel) (by decide)) rfl
    (sb_cons (pc2 := 15) (sx_iload_n (show decode cX12_tankTold 14 = .ok (.iload_n 2, 1) by decide +kernel) rfl) rfl
    (sb_cons (pc2 := 16) (sx_iconst (show decode cX12_tankTold 15 = .ok (.iconst 0, 1) by decide +kernel) (by decide)) rfl
    (sb_cons (pc2 := 17) (sx_iconst (show decode cX12_tankTold 16 = .ok (.iconst 3, 1) by decide +kernel) (by decide)) rfl
    (sb_cons (pc2 := 20) (sx_cS (Y' := YX12_in) rfl (show decode cX12_tankTold 17 = .ok (.invokestatic 147, 3) by decide +kernel) rfl (px_w3 wd_717 wd_718 wd_719) wd_716 ⟨by decide, by decide, by decide +kernel⟩ (by decide)) rfl
    (sb_cons (pc2 := 23) (sx_if_ne (show decode cX12_tankTold 20 = .ok (.ifCond .ne 6, 3) by decide +kernel) (by decide)) rfl sb_nil)))))))))))))
  (ms_cons
  (sb_cons (pc2 := 25) (sx_bipush (show decode cX12_tankTold 23 = .ok (.bipush (-2), 2) by decide +kernel) (by decide)) rfl
    (sb_cons (pc2 := 26) (sx_reti (show decode cX12_tankTold 25 = .ok (.ireturn, 1) by decide +kernel) rfl) rfl sb_nil))
  (ms_cons
  (sb_cons (pc2 := 27) (sx_iload_n (show decode cX12_tankTold 26 = .ok (.iload_n 2, 1) by decide +kernel) rfl) rfl
    (sb_cons (pc2 := 30) (sx_if_ne (show decode cX12_tankTold 27 = .ok (.ifCond .ne 12, 3) by decide +kernel) (by decide)) rfl
    (sb_cons (pc2 := 31) (sx_aload_n (show decode cX12_tankTold 30 = .ok (.aload_n 0, 1) by decide +kernel) rfl) rfl
    (sb_cons (pc2 := 34) (sx_getf (show decode cX12_tankTold 31 = .ok (.getfield 66, 3) by decide +kernel) rfl iX12 (by decide) wd_689) rfl
    (sb_cons (pc2 := 35) (sx_iload_n (show decode cX12_tankTold 34 = .ok (.iload_n 1, 1) by decide +kernel) rfl) rfl
    (sb_cons (pc2 := 36) (sx_iald (show decode cX12_tankTold 35 = .ok (.iaload, 1) by decide +kernel)) rfl
    (sb_cons (pc2 := 39) (px_snd_goto (show decode cX12_tankTold 36 = .ok (.goto 32, 3) by decide +kernel) (by decide)) rfl sb_nil)))))))
  (ms_cons
  (sb_cons (pc2 := 40) (sx_iload_n (show decode cX12_tankTold 39 = .ok (.iload_n 2, 1) by decide +kernel) rfl) rfl
    (sb_cons (pc2 := 41) (sx_iconst (show decode cX12_tankTold 40 = .ok (.iconst 1, 1) by decide +kernel) (by decide)) rfl
    (sb_cons (pc2 := 44) (sx_icmp_ne (show decode cX12_tankTold 41 = .ok (.if_icmp .ne 12, 3) by decide +kernel) (by decide)) rfl
    (sb_cons (pc2 := 45) (sx_aload_n (show decode cX12_tankTold 44 = .ok (.aload_n 0, 1) by decide +kernel) rfl) rfl
    (sb_cons (pc2 := 48) (sx_getf (show decode cX12_tankTold 45 = .ok (.getfield 69, 3) by decide +kernel) rfl iX12 (by decide) wd_690) rfl
    (sb_cons (pc2 := 49) (sx_iload_n (show decode cX12_tankTold 48 = .ok (.iload_n 1, 1) by decide +kernel) rfl) rfl
    (sb_cons (pc2 := 50) (sx_iald (show decode cX12_tankTold 49 = .ok (.iaload, 1) by decide +kernel)) rfl
    (sb_cons (pc2 := 53) (px_snd_goto (show decode cX12_tankTold 50 = .ok (.goto 18, 3) by decide +kernel) (by decide)) rfl sb_nil))))))))
  (ms_cons
  (sb_cons (pc2 := 54) (sx_aload_n (show decode cX12_tankTold 53 = .ok (.aload_n 0, 1) by decide +kernel) rfl) rfl
    (sb_cons (pc2 := 55) (sx_iload_n (show decode cX12_tankTold 54 = .ok (.iload_n 1, 1) by decide +kernel) rfl) rfl
    (sb_cons (pc2 := 56) (sx_iload_n (show decode cX12_tankTold 55 = .ok (.iload_n 2, 1) by decide +kernel) rfl) rfl
    (sb_cons (pc2 := 57) (sx_iconst (show decode cX12_tankTold 56 = .ok (.iconst 2, 1) by decide +kernel) (by decide)) rfl
    (sb_cons (pc2 := 60) (sx_icmp_ne (show decode cX12_tankTold 57 = .ok (.if_icmp .ne 7, 3) by decide +kernel) (by decide)) rfl
    (sb_cons (pc2 := 61) (sx_iconst (show decode cX12_tankTold 60 = .ok (.iconst 1, 1) by decide +kernel) (by decide)) rfl
    (sb_cons (pc2 := 64) (px_snd_goto (show decode cX12_tankTold 61 = .ok (.goto 4, 3) by decide +kernel) (by decide)) rfl sb_nil)))))))
  (ms_cons
  (sb_cons (pc2 := 65) (sx_iconst (show decode cX12_tankTold 64 = .ok (.iconst 0, 1) by decide +kernel) (by decide)) rfl sb_nil)
  (ms_cons
  (sb_cons (pc2 := 68) (sx_cV (Y' := YX12_inTank) (q := (RX12, TX12, 69)) rfl (show decode cX12_tankTold 65 = .ok (.invokevirtual 208, 3) by decide +kernel) rfl rfl (px_w4 wd_774 wd_775 wd_776 wd_719) wd_773 ⟨by decide, by decide, by decide +kernel⟩ (by decide)) rfl sb_nil)
  (ms_cons
  (sb_cons (pc2 := 69) (sx_reti (show decode cX12_tankTold 68 = .ok (.ireturn, 1) by decide +kernel) rfl) rfl sb_nil)
  ms_nil))))))))
def kX12_isUnder (X : px_X) : px_B := [(0, [], [px_iload 1, px_if1 (fun x => decide (x = 0)) 19, px_iload 0, px_iload 1, px_if2 (fun x y => decide (x = y)) 19, px_iload 0, px_push (.int 5), px_if2 (fun x y => decide (¬ x = y)) 23, px_iload 1, px_push (.int 3), px_if2 (fun x y => decide (¬ x = y)) 23], 19),
  (19, [false, false], [px_push (.int 1), px_goto 24], 23),
  (23, [false, false], [px_push (.int 0)], 24),
  (24, [false, false], [px_retz], 25)]
set_option maxRecDepth 100000 in
set_option maxHeartbeats 8000000 in
theorem sX12_isUnder (d : Nat) (X : px_X) : px_MS d X YX12_isUnder (kX12_isUnder X) :=
  (ms_cons
  (sb_cons (pc2 := 1) (sx_iload_n (show decode cX12_isUnder 0 = .ok (.iload_n 1, 1) by decide +kernel) rfl) rfl
    (sb_cons (pc2 := 4) (sx_if_eq (show decode cX12_isUnder 1 = .ok (.ifCond .eq 18, 3) by decide +kernel) (by decide)) rfl
    (sb_cons (pc2 := 5) (sx_iload_n (show decode cX12_isUnder 4 = .ok (.iload_n 0, 1) by decide +kernel) rfl) rfl
    (sb_cons (pc2 := 6) (sx_iload_n (show decode cX12_isUnder 5 = .ok (.iload_n 1, 1) by decide +kernel) rfl) rfl
    (sb_cons (pc2 := 9) (sx_icmp_eq (show decode cX12_isUnder 6 = .ok (.if_icmp .eq 13, 3) by decide +kernel) (by decide)) rfl
    (sb_cons (pc2 := 10) (sx_iload_n (show decode cX12_isUnder 9 = .ok (.iload_n 0, 1) by decide +kernel) rfl) rfl
    (sb_cons (pc2 := 11) (sx_iconst (show decode cX12_isUnder 10 = .ok (.iconst 5, 1) by decide +kernel) (by decide)) rfl
    (sb_cons (pc2 := 14) (sx_icmp_ne (show decode cX12_isUnder 11 = .ok (.if_icmp .ne 12, 3) by decide +kernel) (by decide)) rfl
    (sb_cons (pc2 := 15) (sx_iload_n (show decode cX12_isUnder 14 = .ok (.iload_n 1, 1) by decide +kernel) rfl) rfl
    (sb_cons (pc2 := 16) (sx_iconst (show decode cX12_isUnder 15 = .ok (.iconst 3, 1) by decide +kernel) (by decide)) rfl
    (sb_cons (pc2 := 19) (sx_icmp_ne (show decode cX12_isUnder 16 = .ok (.if_icmp .ne 7, 3) by decide +kernel) (by decide)) rfl sb_nil)))))))))))
  (ms_cons
  (sb_cons (pc2 := 20) (sx_iconst (show decode cX12_isUnder 19 = .ok (.iconst 1, 1) by decide +kernel) (by decide)) rfl
    (sb_cons (pc2 := 23) (px_snd_goto (show decode cX12_isUnder 20 = .ok (.goto 4, 3) by decide +kernel) (by decide)) rfl sb_nil))
  (ms_cons
  (sb_cons (pc2 := 24) (sx_iconst (show decode cX12_isUnder 23 = .ok (.iconst 0, 1) by decide +kernel) (by decide)) rfl sb_nil)
  (ms_cons
  (sb_cons (pc2 := 25) (sx_retz (show decode cX12_isUnder 24 = .ok (.ireturn, 1) by decide +kernel) rfl) rfl sb_nil)
  ms_nil))))
def kX12_hinders (X : px_X) : px_B := [(0, [], [px_aload 0, px_getf 12 20, px_iload 1, px_iald 0, px_push (.int (-1)), px_if2 (fun x y => decide (x = y)) 12, px_push (.int 1), px_reti], 12),
  (12, [true, true, true, true, false], [px_aload 0, px_getf 12 14, px_iload 1, px_iald 0, px_aload 0, px_getf 12 23, px_iload 2, px_iald 0, px_cS X 190 2, px_if1 (fun x => decide (¬ x = 0)) 32, px_push (.int 2), px_reti], 32),
  (32, [true, true, true, true, false], [px_aload 0, px_iload 2, px_push (.int 1), px_cV X 188 3 12, px_aload 0, px_getf 12 17, px_iload 1, px_iald 0, (px_i2 fun x y => x + y), px_aload 0, px_getf 12 24, px_iload 2, px_iald 0, px_if2 (fun x y => decide (x ≤ y)) 56, px_push (.int 3), px_reti], 56),
  (56, [true, true, false, true, false], [px_push (.int 0), px_istore 4], 59),
  (59, [true, true, false, true, true], [px_iload 4, px_aload 0, px_getf 12 38, px_if2 (fun x y => decide (y ≤ x)) 90, px_aload 0, px_iload 4, px_iload 1, px_iload 3, px_cV X 230 4 12, px_if1 (fun x => decide (x = 0)) 84, px_push (.int 4), px_iload 4, (px_i2 fun x y => x + y), px_reti], 84),
  (84, [true, true, false, true, true], [px_iinc 4 1, px_goto 59], 90),
  (90, [false, false, false, false, false], [px_push (.int 0), px_reti], 92)]
set_option maxRecDepth 100000 in
set_option maxHeartbeats 8000000 in
theorem sX12_hinders (d : Nat) (X : px_X) : px_MS d X YX12_hinders (kX12_hinders X) :=
  (ms_cons
  (sb_cons (pc2 := 1) (sx_aload_n (show decode cX12_hinders 0 = .ok (.aload_n 0, 1) by decide +kernel) rfl) rfl
    (sb_cons (pc2 := 4) (sx_getf (show decode cX12_hinders 1 = .ok (.getfield 60, 3) by decide +kernel) rfl iX12 (by decide) wd_687) rfl
    (sb_cons (pc2 := 5) (sx_iload_n (show decode cX12_hinders 4 = .ok (.iload_n 1, 1) by decide +kernel) rfl) rfl
    (sb_cons (pc2 := 6) (sx_iald (show decode cX12_hinders 5 = .ok (.iaload, 1) by decide +kernel)) rfl
    (sb_cons (pc2 := 7) (sx_iconst (show decode cX12_hinders 6 = .ok (.iconst (-1), 1) by decide +kernel) (by decide)) rfl
    (sb_cons (pc2 := 10) (sx_icmp_eq (show decode cX12_hinders 7 = .ok (.if_icmp .eq 5, 3) by decide +kernel) (by decide)) rfl
    (sb_cons (pc2 := 11) (sx_iconst (show decode cX12_hinders 10 = .ok (.iconst 1, 1) by decide +kernel) (by decide)) rfl
    (sb_cons (pc2 := 12) (sx_reti (show decode cX12_hinders 11 = .ok (.ireturn, 1) by decide +kernel) rfl) rfl sb_nil))))))))
  (ms_cons
  (sb_cons (pc2 := 13) (sx_aload_n (show decode cX12_hinders 12 = .ok (.aload_n 0, 1) by decide +kernel) rfl) rfl
    (sb_cons (pc2 := 16) (sx_getf (show decode cX12_hinders 13 = .ok (.getfield 42, 3) by decide +kernel) rfl iX12 (by decide) wd_681) rfl
    (sb_cons (pc2 := 17) (sx_iload_n (show decode cX12_hinders 16 = .ok (.iload_n 1, 1) by decide +kernel) rfl) rfl
    (sb_cons (pc2 := 18) (sx_iald (show decode cX12_hinders 17 = .ok (.iaload, 1) by decide +kernel)) rfl
    (sb_cons (pc2 := 19) (sx_aload_n (show decode cX12_hinders 18 = .ok (.aload_n 0, 1) by decide +kernel) rfl) rfl
    (sb_cons (pc2 := 22) (sx_getf (show decode cX12_hinders 19 = .ok (.getfield 66, 3) by decide +kernel) rfl iX12 (by decide) wd_689) rfl
    (sb_cons (pc2 := 23) (sx_iload_n (show decode cX12_hinders 22 = .ok (.iload_n 2, 1) by decide +kernel) rfl) rfl
    (sb_cons (pc2 := 24) (sx_iald (show decode cX12_hinders 23 = .ok (.iaload, 1) by decide +kernel)) rfl
    (sb_cons (pc2 := 27) (sx_cS (Y' := YX12_isUnder) rfl (show decode cX12_hinders 24 = .ok (.invokestatic 212, 3) by decide +kernel) rfl (px_w3 wd_778 wd_779 wd_719) wd_777 ⟨by decide, by decide, by decide +kernel⟩ (by decide)) rfl
    (sb_cons (pc2 := 30) (sx_if_ne (show decode cX12_hinders 27 = .ok (.ifCond .ne 5, 3) by decide +kernel) (by decide)) rfl
    (sb_cons (pc2 := 31) (sx_iconst (show decode cX12_hinders 30 = .ok (.iconst 2, 1) by decide +kernel) (by decide)) rfl
    (sb_cons (pc2 := 32) (sx_reti (show decode cX12_hinders 31 = .ok (.ireturn, 1) by decide +kernel) rfl) rfl sb_nil))))))))))))
  (ms_cons
  (sb_cons (pc2 := 33) (sx_aload_n (show decode cX12_hinders 32 = .ok (.aload_n 0, 1) by decide +kernel) rfl) rfl
    (sb_cons (pc2 := 34) (sx_iload_n (show decode cX12_hinders 33 = .ok (.iload_n 2, 1) by decide +kernel) rfl) rfl
    (sb_cons (pc2 := 35) (sx_iconst (show decode cX12_hinders 34 = .ok (.iconst 1, 1) by decide +kernel) (by decide)) rfl
    (sb_cons (pc2 := 38) (sx_cV (Y' := YX12_inTank) (q := (RX12, TX12, 69)) rfl (show decode cX12_hinders 35 = .ok (.invokevirtual 208, 3) by decide +kernel) rfl rfl (px_w4 wd_774 wd_775 wd_776 wd_719) wd_773 ⟨by decide, by decide, by decide +kernel⟩ (by decide)) rfl
    (sb_cons (pc2 := 39) (sx_aload_n (show decode cX12_hinders 38 = .ok (.aload_n 0, 1) by decide +kernel) rfl) rfl
    (sb_cons (pc2 := 42) (sx_getf (show decode cX12_hinders 39 = .ok (.getfield 51, 3) by decide +kernel) rfl iX12 (by decide) wd_684) rfl
    (sb_cons (pc2 := 43) (sx_iload_n (show decode cX12_hinders 42 = .ok (.iload_n 1, 1) by decide +kernel) rfl) rfl
    (sb_cons (pc2 := 44) (sx_iald (show decode cX12_hinders 43 = .ok (.iaload, 1) by decide +kernel)) rfl
    (sb_cons (pc2 := 45) (sx_iadd (show decode cX12_hinders 44 = .ok (.iadd, 1) by decide +kernel)) rfl
    (sb_cons (pc2 := 46) (sx_aload_n (show decode cX12_hinders 45 = .ok (.aload_n 0, 1) by decide +kernel) rfl) rfl
    (sb_cons (pc2 := 49) (sx_getf (show decode cX12_hinders 46 = .ok (.getfield 69, 3) by decide +kernel) rfl iX12 (by decide) wd_690) rfl
    (sb_cons (pc2 := 50) (sx_iload_n (show decode cX12_hinders 49 = .ok (.iload_n 2, 1) by decide +kernel) rfl) rfl
    (sb_cons (pc2 := 51) (sx_iald (show decode cX12_hinders 50 = .ok (.iaload, 1) by decide +kernel)) rfl
    (sb_cons (pc2 := 54) (sx_icmp_le (show decode cX12_hinders 51 = .ok (.if_icmp .le 5, 3) by decide +kernel) (by decide)) rfl
    (sb_cons (pc2 := 55) (sx_iconst (show decode cX12_hinders 54 = .ok (.iconst 3, 1) by decide +kernel) (by decide)) rfl
    (sb_cons (pc2 := 56) (sx_reti (show decode cX12_hinders 55 = .ok (.ireturn, 1) by decide +kernel) rfl) rfl sb_nil))))))))))))))))
  (ms_cons
  (sb_cons (pc2 := 57) (sx_iconst (show decode cX12_hinders 56 = .ok (.iconst 0, 1) by decide +kernel) (by decide)) rfl
    (sb_cons (pc2 := 59) (sx_istore (show decode cX12_hinders 57 = .ok (.istore 4, 2) by decide +kernel)) rfl sb_nil))
  (ms_cons
  (sb_cons (pc2 := 61) (sx_iload (show decode cX12_hinders 59 = .ok (.iload 4, 2) by decide +kernel)) rfl
    (sb_cons (pc2 := 62) (sx_aload_n (show decode cX12_hinders 61 = .ok (.aload_n 0, 1) by decide +kernel) rfl) rfl
    (sb_cons (pc2 := 65) (sx_getf (show decode cX12_hinders 62 = .ok (.getfield 216, 3) by decide +kernel) rfl iX12 (by decide) wd_780) rfl
    (sb_cons (pc2 := 68) (sx_icmp_ge (show decode cX12_hinders 65 = .ok (.if_icmp .ge 25, 3) by decide +kernel) (by decide)) rfl
    (sb_cons (pc2 := 69) (sx_aload_n (show decode cX12_hinders 68 = .ok (.aload_n 0, 1) by decide +kernel) rfl) rfl
    (sb_cons (pc2 := 71) (sx_iload (show decode cX12_hinders 69 = .ok (.iload 4, 2) by decide +kernel)) rfl
    (sb_cons (pc2 := 72) (sx_iload_n (show decode cX12_hinders 71 = .ok (.iload_n 1, 1) by decide +kernel) rfl) rfl
    (sb_cons (pc2 := 73) (sx_iload_n (show decode cX12_hinders 72 = .ok (.iload_n 3, 1) by decide +kernel) rfl) rfl
    (sb_cons (pc2 := 76) (sx_cV (Y' := YX12_worked) (q := (RX12, TX12, 69)) rfl (show decode cX12_hinders 73 = .ok (.invokevirtual 219, 3) by decide +kernel) rfl rfl (px_w4 wd_782 wd_783 wd_784 wd_719) wd_781 ⟨by decide, by decide, by decide +kernel⟩ (by decide)) rfl
    (sb_cons (pc2 := 79) (sx_if_eq (show decode cX12_hinders 76 = .ok (.ifCond .eq 8, 3) by decide +kernel) (by decide)) rfl
    (sb_cons (pc2 := 80) (sx_iconst (show decode cX12_hinders 79 = .ok (.iconst 4, 1) by decide +kernel) (by decide)) rfl
    (sb_cons (pc2 := 82) (sx_iload (show decode cX12_hinders 80 = .ok (.iload 4, 2) by decide +kernel)) rfl
    (sb_cons (pc2 := 83) (sx_iadd (show decode cX12_hinders 82 = .ok (.iadd, 1) by decide +kernel)) rfl
    (sb_cons (pc2 := 84) (sx_reti (show decode cX12_hinders 83 = .ok (.ireturn, 1) by decide +kernel) rfl) rfl sb_nil))))))))))))))
  (ms_cons
  (sb_cons (pc2 := 87) (sx_iinc (show decode cX12_hinders 84 = .ok (.iinc 4 1, 3) by decide +kernel) (by decide)) rfl
    (sb_cons (pc2 := 90) (px_snd_goto (show decode cX12_hinders 87 = .ok (.goto (-28), 3) by decide +kernel) (by decide)) rfl sb_nil))
  (ms_cons
  (sb_cons (pc2 := 91) (sx_iconst (show decode cX12_hinders 90 = .ok (.iconst 0, 1) by decide +kernel) (by decide)) rfl
    (sb_cons (pc2 := 92) (sx_reti (show decode cX12_hinders 91 = .ok (.ireturn, 1) by decide +kernel) rfl) rfl sb_nil))
  ms_nil)))))))
def kX12_why (X : px_X) : px_B := [(0, [], [px_aload 0, px_iload 1, px_cV X 167 2 12, px_if1 (fun x => decide (x = 0)) 39, px_iload 2, px_push (.int 0), px_aload 0, px_getf 12 22, px_push (.int 1), (px_i2 fun x y => x - y), px_cS X 165 3, px_if1 (fun x => decide (x = 0)) 39, px_iload 3, px_cS X 168 1, px_if1 (fun x => decide (x = 0)) 39, px_aload 0, px_iload 1, px_iload 2, px_iload 3, px_cV X 191 4 12, px_goto 41], 39),
  (39, [false, false, false, false], [px_push (.int (-2))], 41),
  (41, [false, false, false, false], [px_reti], 42)]
set_option maxRecDepth 100000 in
set_option maxHeartbeats 8000000 in
theorem sX12_why (d : Nat) (X : px_X) : px_MS d X YX12_why (kX12_why X) :=
  (ms_cons
  (sb_cons (pc2 := 1) (sx_aload_n (show decode cX12_why 0 = .ok (.aload_n 0, 1) by decide +kernel) rfl) rfl
    (sb_cons (pc2 := 2) (sx_iload_n (show decode cX12_why 1 = .ok (.iload_n 1, 1) by decide +kernel) rfl) rfl
    (sb_cons (pc2 := 5) (sx_cV (Y' := YX12_isFind) (q := (RX12, TX12, 69)) rfl (show decode cX12_why 2 = .ok (.invokevirtual 196, 3) by decide +kernel) rfl rfl (px_w4 wd_761 wd_762 wd_763 wd_719) wd_760 ⟨by decide, by decide, by decide +kernel⟩ (by decide)) rfl
    (sb_cons (pc2 := 8) (sx_if_eq (show decode cX12_why 5 = .ok (.ifCond .eq 34, 3) by decide +kernel) (by decide)) rfl
    (sb_cons (pc2 := 9) (sx_iload_n (show decode cX12_why 8 = .ok (.iload_n 2, 1) by decide +kernel) rfl) rfl
    (sb_cons (pc2 := 10) (sx_iconst (show decode cX12_why 9 = .ok (.iconst 0, 1) by decide +kernel) (by decide)) rfl
    (sb_cons (pc2 := 11) (sx_aload_n (show decode cX12_why 10 = .ok (.aload_n 0, 1) by decide +kernel) rfl) rfl
    (sb_cons (pc2 := 14) (sx_getf (show decode cX12_why 11 = .ok (.getfield 205, 3) by decide +kernel) rfl iX12 (by decide) wd_772) rfl
    (sb_cons (pc2 := 15) (sx_iconst (show decode cX12_why 14 = .ok (.iconst 1, 1) by decide +kernel) (by decide)) rfl
    (sb_cons (pc2 := 16) (sx_isub (show decode cX12_why 15 = .ok (.isub, 1) by decide +kernel)) rfl
    (sb_cons (pc2 := 19) (sx_cS (Y' := YX12_in) rfl (show decode cX12_why 16 = .ok (.invokestatic 147, 3) by decide +kernel) rfl (px_w3 wd_717 wd_718 wd_719) wd_716 ⟨by decide, by decide, by decide +kernel⟩ (by decide)) rfl
    (sb_cons (pc2 := 22) (sx_if_eq (show decode cX12_why 19 = .ok (.ifCond .eq 20, 3) by decide +kernel) (by decide)) rfl
    (sb_cons (pc2 := 23) (sx_iload_n (show decode cX12_why 22 = .ok (.iload_n 3, 1) by decide +kernel) rfl) rfl
    (sb_cons (pc2 := 26) (sx_cS (Y' := YX12_isDay) rfl (show decode cX12_why 23 = .ok (.invokestatic 222, 3) by decide +kernel) rfl (px_w3 wd_786 wd_787 wd_719) wd_785 ⟨by decide, by decide, by decide +kernel⟩ (by decide)) rfl
    (sb_cons (pc2 := 29) (sx_if_eq (show decode cX12_why 26 = .ok (.ifCond .eq 13, 3) by decide +kernel) (by decide)) rfl
    (sb_cons (pc2 := 30) (sx_aload_n (show decode cX12_why 29 = .ok (.aload_n 0, 1) by decide +kernel) rfl) rfl
    (sb_cons (pc2 := 31) (sx_iload_n (show decode cX12_why 30 = .ok (.iload_n 1, 1) by decide +kernel) rfl) rfl
    (sb_cons (pc2 := 32) (sx_iload_n (show decode cX12_why 31 = .ok (.iload_n 2, 1) by decide +kernel) rfl) rfl
    (sb_cons (pc2 := 33) (sx_iload_n (show decode cX12_why 32 = .ok (.iload_n 3, 1) by decide +kernel) rfl) rfl
    (sb_cons (pc2 := 36) (sx_cV (Y' := YX12_hinders) (q := (RX12, TX12, 69)) rfl (show decode cX12_why 33 = .ok (.invokevirtual 225, 3) by decide +kernel) rfl rfl (px_w4 wd_789 wd_790 wd_791 wd_719) wd_788 ⟨by decide, by decide, by decide +kernel⟩ (by decide)) rfl
    (sb_cons (pc2 := 39) (px_snd_goto (show decode cX12_why 36 = .ok (.goto 5, 3) by decide +kernel) (by decide)) rfl sb_nil)))))))))))))))))))))
  (ms_cons
  (sb_cons (pc2 := 41) (sx_bipush (show decode cX12_why 39 = .ok (.bipush (-2), 2) by decide +kernel) (by decide)) rfl sb_nil)
  (ms_cons
  (sb_cons (pc2 := 42) (sx_reti (show decode cX12_why 41 = .ok (.ireturn, 1) by decide +kernel) rfl) rfl sb_nil)
  ms_nil)))
def kX12_lift (X : px_X) : px_B := [(0, [], [px_aload 0, px_iload 1, px_iload 2, px_iload 3, px_cV X 192 4 12, px_istore 4, px_iload 4, px_push (.int (-2)), px_if2 (fun x y => decide (¬ x = y)) 19, px_push (.int (-2)), px_reti], 19),
  (19, [true, true, true, true, true], [px_iload 4, px_if1 (fun x => decide (x = 0)) 30, px_push (.int (-20)), px_iload 4, (px_i2 fun x y => x - y), px_reti], 30),
  (30, [true, true, true, true, false], [px_aload 0, px_getf 12 20, px_iload 1, px_iload 2, px_iast 0, px_aload 0, px_getf 12 21, px_iload 1, px_iload 3, px_iast 0, px_push (.int 1), px_reti], 46)]
set_option maxRecDepth 100000 in
set_option maxHeartbeats 8000000 in
theorem sX12_lift (d : Nat) (X : px_X) : px_MS d X YX12_lift (kX12_lift X) :=
  (ms_cons
  (sb_cons (pc2 := 1) (sx_aload_n (show decode cX12_lift 0 = .ok (.aload_n 0, 1) by decide +kernel) rfl) rfl
    (sb_cons (pc2 := 2) (sx_iload_n (show decode cX12_lift 1 = .ok (.iload_n 1, 1) by decide +kernel) rfl) rfl
    (sb_cons (pc2 := 3) (sx_iload_n (show decode cX12_lift 2 = .ok (.iload_n 2, 1) by decide +kernel) rfl) rfl
    (sb_cons (pc2 := 4) (sx_iload_n (show decode cX12_lift 3 = .ok (.iload_n 3, 1) by decide +kernel) rfl) rfl
    (sb_cons (pc2 := 7) (sx_cV (Y' := YX12_why) (q := (RX12, TX12, 69)) rfl (show decode cX12_lift 4 = .ok (.invokevirtual 228, 3) by decide +kernel) rfl rfl (px_w4 wd_793 wd_794 wd_795 wd_719) wd_792 ⟨by decide, by decide, by decide +kernel⟩ (by decide)) rfl
    (sb_cons (pc2 := 9) (sx_istore (show decode cX12_lift 7 = .ok (.istore 4, 2) by decide +kernel)) rfl
    (sb_cons (pc2 := 11) (sx_iload (show decode cX12_lift 9 = .ok (.iload 4, 2) by decide +kernel)) rfl
    (sb_cons (pc2 := 13) (sx_bipush (show decode cX12_lift 11 = .ok (.bipush (-2), 2) by decide +kernel) (by decide)) rfl
    (sb_cons (pc2 := 16) (sx_icmp_ne (show decode cX12_lift 13 = .ok (.if_icmp .ne 6, 3) by decide +kernel) (by decide)) rfl
    (sb_cons (pc2 := 18) (sx_bipush (show decode cX12_lift 16 = .ok (.bipush (-2), 2) by decide +kernel) (by decide)) rfl
    (sb_cons (pc2 := 19) (sx_reti (show decode cX12_lift 18 = .ok (.ireturn, 1) by decide +kernel) rfl) rfl sb_nil)))))))))))
  (ms_cons
  (sb_cons (pc2 := 21) (sx_iload (show decode cX12_lift 19 = .ok (.iload 4, 2) by decide +kernel)) rfl
    (sb_cons (pc2 := 24) (sx_if_eq (show decode cX12_lift 21 = .ok (.ifCond .eq 9, 3) by decide +kernel) (by decide)) rfl
    (sb_cons (pc2 := 26) (sx_bipush (show decode cX12_lift 24 = .ok (.bipush (-20), 2) by decide +kernel) (by decide)) rfl
    (sb_cons (pc2 := 28) (sx_iload (show decode cX12_lift 26 = .ok (.iload 4, 2) by decide +kernel)) rfl
    (sb_cons (pc2 := 29) (sx_isub (show decode cX12_lift 28 = .ok (.isub, 1) by decide +kernel)) rfl
    (sb_cons (pc2 := 30) (sx_reti (show decode cX12_lift 29 = .ok (.ireturn, 1) by decide +kernel) rfl) rfl sb_nil))))))
  (ms_cons
  (sb_cons (pc2 := 31) (sx_aload_n (show decode cX12_lift 30 = .ok (.aload_n 0, 1) by decide +kernel) rfl) rfl
    (sb_cons (pc2 := 34) (sx_getf (show decode cX12_lift 31 = .ok (.getfield 60, 3) by decide +kernel) rfl iX12 (by decide) wd_687) rfl
    (sb_cons (pc2 := 35) (sx_iload_n (show decode cX12_lift 34 = .ok (.iload_n 1, 1) by decide +kernel) rfl) rfl
    (sb_cons (pc2 := 36) (sx_iload_n (show decode cX12_lift 35 = .ok (.iload_n 2, 1) by decide +kernel) rfl) rfl
    (sb_cons (pc2 := 37) (sx_iast (show decode cX12_lift 36 = .ok (.iastore, 1) by decide +kernel)) rfl
    (sb_cons (pc2 := 38) (sx_aload_n (show decode cX12_lift 37 = .ok (.aload_n 0, 1) by decide +kernel) rfl) rfl
    (sb_cons (pc2 := 41) (sx_getf (show decode cX12_lift 38 = .ok (.getfield 63, 3) by decide +kernel) rfl iX12 (by decide) wd_688) rfl
    (sb_cons (pc2 := 42) (sx_iload_n (show decode cX12_lift 41 = .ok (.iload_n 1, 1) by decide +kernel) rfl) rfl
    (sb_cons (pc2 := 43) (sx_iload_n (show decode cX12_lift 42 = .ok (.iload_n 3, 1) by decide +kernel) rfl) rfl
    (sb_cons (pc2 := 44) (sx_iast (show decode cX12_lift 43 = .ok (.iastore, 1) by decide +kernel)) rfl
    (sb_cons (pc2 := 45) (sx_iconst (show decode cX12_lift 44 = .ok (.iconst 1, 1) by decide +kernel) (by decide)) rfl
    (sb_cons (pc2 := 46) (sx_reti (show decode cX12_lift 45 = .ok (.ireturn, 1) by decide +kernel) rfl) rfl sb_nil))))))))))))
  ms_nil)))
def kX12_take (X : px_X) : px_B := [(0, [], [px_aload 0, px_iload 1, px_cV X 167 2 12, px_if1 (fun x => decide (x = 0)) 15, px_iload 2, px_cS X 168 1, px_if1 (fun x => decide (¬ x = 0)) 18], 15),
  (15, [false, false, false], [px_push (.int (-2)), px_reti], 18),
  (18, [true, true, true], [px_aload 0, px_getf 12 20, px_iload 1, px_iald 0, px_if1 (fun x => decide (x < 0)) 46, px_iload 2, px_aload 0, px_getf 12 21, px_iload 1, px_iald 0, px_push (.int 7), px_aload 0, px_iload 1, px_cV X 185 2 12, (px_i2 fun x y => x * y), (px_i2 fun x y => x + y), px_if2 (fun x y => decide (y ≤ x)) 49], 46),
  (46, [false, false, false], [px_push (.int (-3)), px_reti], 49),
  (49, [true, true, false], [px_aload 0, px_getf 12 20, px_iload 1, px_push (.int (-2)), px_iast 0, px_push (.int 1), px_reti], 59)]
set_option maxRecDepth 100000 in
set_option maxHeartbeats 8000000 in
theorem sX12_take (d : Nat) (X : px_X) : px_MS d X YX12_take (kX12_take X) :=
  (ms_cons
  (sb_cons (pc2 := 1) (sx_aload_n (show decode cX12_take 0 = .ok (.aload_n 0, 1) by decide +kernel) rfl) rfl
    (sb_cons (pc2 := 2) (sx_iload_n (show decode cX12_take 1 = .ok (.iload_n 1, 1) by decide +kernel) rfl) rfl
    (sb_cons (pc2 := 5) (sx_cV (Y' := YX12_isFind) (q := (RX12, TX12, 69)) rfl (show decode cX12_take 2 = .ok (.invokevirtual 196, 3) by decide +kernel) rfl rfl (px_w4 wd_761 wd_762 wd_763 wd_719) wd_760 ⟨by decide, by decide, by decide +kernel⟩ (by decide)) rfl
    (sb_cons (pc2 := 8) (sx_if_eq (show decode cX12_take 5 = .ok (.ifCond .eq 10, 3) by decide +kernel) (by decide)) rfl
    (sb_cons (pc2 := 9) (sx_iload_n (show decode cX12_take 8 = .ok (.iload_n 2, 1) by decide +kernel) rfl) rfl
    (sb_cons (pc2 := 12) (sx_cS (Y' := YX12_isDay) rfl (show decode cX12_take 9 = .ok (.invokestatic 222, 3) by decide +kernel) rfl (px_w3 wd_786 wd_787 wd_719) wd_785 ⟨by decide, by decide, by decide +kernel⟩ (by decide)) rfl
    (sb_cons (pc2 := 15) (sx_if_ne (show decode cX12_take 12 = .ok (.ifCond .ne 6, 3) by decide +kernel) (by decide)) rfl sb_nil)))))))
  (ms_cons
  (sb_cons (pc2 := 17) (sx_bipush (show decode cX12_take 15 = .ok (.bipush (-2), 2) by decide +kernel) (by decide)) rfl
    (sb_cons (pc2 := 18) (sx_reti (show decode cX12_take 17 = .ok (.ireturn, 1) by decide +kernel) rfl) rfl sb_nil))
  (ms_cons
  (sb_cons (pc2 := 19) (sx_aload_n (show decode cX12_take 18 = .ok (.aload_n 0, 1) by decide +kernel) rfl) rfl
    (sb_cons (pc2 := 22) (sx_getf (show decode cX12_take 19 = .ok (.getfield 60, 3) by decide +kernel) rfl iX12 (by decide) wd_687) rfl
    (sb_cons (pc2 := 23) (sx_iload_n (show decode cX12_take 22 = .ok (.iload_n 1, 1) by decide +kernel) rfl) rfl
    (sb_cons (pc2 := 24) (sx_iald (show decode cX12_take 23 = .ok (.iaload, 1) by decide +kernel)) rfl
    (sb_cons (pc2 := 27) (sx_if_lt (show decode cX12_take 24 = .ok (.ifCond .lt 22, 3) by decide +kernel) (by decide)) rfl
    (sb_cons (pc2 := 28) (sx_iload_n (show decode cX12_take 27 = .ok (.iload_n 2, 1) by decide +kernel) rfl) rfl
    (sb_cons (pc2 := 29) (sx_aload_n (show decode cX12_take 28 = .ok (.aload_n 0, 1) by decide +kernel) rfl) rfl
    (sb_cons (pc2 := 32) (sx_getf (show decode cX12_take 29 = .ok (.getfield 63, 3) by decide +kernel) rfl iX12 (by decide) wd_688) rfl
    (sb_cons (pc2 := 33) (sx_iload_n (show decode cX12_take 32 = .ok (.iload_n 1, 1) by decide +kernel) rfl) rfl
    (sb_cons (pc2 := 34) (sx_iald (show decode cX12_take 33 = .ok (.iaload, 1) by decide +kernel)) rfl
    (sb_cons (pc2 := 36) (sx_bipush (show decode cX12_take 34 = .ok (.bipush 7, 2) by decide +kernel) (by decide)) rfl
    (sb_cons (pc2 := 37) (sx_aload_n (show decode cX12_take 36 = .ok (.aload_n 0, 1) by decide +kernel) rfl) rfl
    (sb_cons (pc2 := 38) (sx_iload_n (show decode cX12_take 37 = .ok (.iload_n 1, 1) by decide +kernel) rfl) rfl
    (sb_cons (pc2 := 41) (sx_cV (Y' := YX12_weeks) (q := (RX12, TX12, 69)) rfl (show decode cX12_take 38 = .ok (.invokevirtual 202, 3) by decide +kernel) rfl rfl (px_w4 wd_769 wd_770 wd_771 wd_719) wd_768 ⟨by decide, by decide, by decide +kernel⟩ (by decide)) rfl
    (sb_cons (pc2 := 42) (sx_imul (show decode cX12_take 41 = .ok (.imul, 1) by decide +kernel)) rfl
    (sb_cons (pc2 := 43) (sx_iadd (show decode cX12_take 42 = .ok (.iadd, 1) by decide +kernel)) rfl
    (sb_cons (pc2 := 46) (sx_icmp_ge (show decode cX12_take 43 = .ok (.if_icmp .ge 6, 3) by decide +kernel) (by decide)) rfl sb_nil)))))))))))))))))
  (ms_cons
  (sb_cons (pc2 := 48) (sx_bipush (show decode cX12_take 46 = .ok (.bipush (-3), 2) by decide +kernel) (by decide)) rfl
    (sb_cons (pc2 := 49) (sx_reti (show decode cX12_take 48 = .ok (.ireturn, 1) by decide +kernel) rfl) rfl sb_nil))
  (ms_cons
  (sb_cons (pc2 := 50) (sx_aload_n (show decode cX12_take 49 = .ok (.aload_n 0, 1) by decide +kernel) rfl) rfl
    (sb_cons (pc2 := 53) (sx_getf (show decode cX12_take 50 = .ok (.getfield 60, 3) by decide +kernel) rfl iX12 (by decide) wd_687) rfl
    (sb_cons (pc2 := 54) (sx_iload_n (show decode cX12_take 53 = .ok (.iload_n 1, 1) by decide +kernel) rfl) rfl
    (sb_cons (pc2 := 56) (sx_bipush (show decode cX12_take 54 = .ok (.bipush (-2), 2) by decide +kernel) (by decide)) rfl
    (sb_cons (pc2 := 57) (sx_iast (show decode cX12_take 56 = .ok (.iastore, 1) by decide +kernel)) rfl
    (sb_cons (pc2 := 58) (sx_iconst (show decode cX12_take 57 = .ok (.iconst 1, 1) by decide +kernel) (by decide)) rfl
    (sb_cons (pc2 := 59) (sx_reti (show decode cX12_take 58 = .ok (.ireturn, 1) by decide +kernel) rfl) rfl sb_nil)))))))
  ms_nil)))))
def kX12_diver (X : px_X) : px_B := [(0, [], [px_aload 0, px_getf 12 25, px_push (.int 6), px_if2 (fun x y => decide (¬ x = y)) 12, px_push (.int (-4)), px_reti], 12),
  (12, [true], [px_aload 0, px_dup, px_getf 12 25, px_push (.int 1), (px_i2 fun x y => x + y), px_puti 12 25, px_aload 0, px_getf 12 25, px_push (.int 1), (px_i2 fun x y => x - y), px_reti], 29)]
set_option maxRecDepth 100000 in
set_option maxHeartbeats 8000000 in
theorem sX12_diver (d : Nat) (X : px_X) : px_MS d X YX12_diver (kX12_diver X) :=
  (ms_cons
  (sb_cons (pc2 := 1) (sx_aload_n (show decode cX12_diver 0 = .ok (.aload_n 0, 1) by decide +kernel) rfl) rfl
    (sb_cons (pc2 := 4) (sx_getf (show decode cX12_diver 1 = .ok (.getfield 231, 3) by decide +kernel) rfl iX12 (by decide) wd_796) rfl
    (sb_cons (pc2 := 6) (sx_bipush (show decode cX12_diver 4 = .ok (.bipush 6, 2) by decide +kernel) (by decide)) rfl
    (sb_cons (pc2 := 9) (sx_icmp_ne (show decode cX12_diver 6 = .ok (.if_icmp .ne 6, 3) by decide +kernel) (by decide)) rfl
    (sb_cons (pc2 := 11) (sx_bipush (show decode cX12_diver 9 = .ok (.bipush (-4), 2) by decide +kernel) (by decide)) rfl
    (sb_cons (pc2 := 12) (sx_reti (show decode cX12_diver 11 = .ok (.ireturn, 1) by decide +kernel) rfl) rfl sb_nil))))))
  (ms_cons
  (sb_cons (pc2 := 13) (sx_aload_n (show decode cX12_diver 12 = .ok (.aload_n 0, 1) by decide +kernel) rfl) rfl
    (sb_cons (pc2 := 14) (sx_dup (show decode cX12_diver 13 = .ok (.dup, 1) by decide +kernel)) rfl
    (sb_cons (pc2 := 17) (sx_getf (show decode cX12_diver 14 = .ok (.getfield 231, 3) by decide +kernel) rfl iX12 (by decide) wd_796) rfl
    (sb_cons (pc2 := 18) (sx_iconst (show decode cX12_diver 17 = .ok (.iconst 1, 1) by decide +kernel) (by decide)) rfl
    (sb_cons (pc2 := 19) (sx_iadd (show decode cX12_diver 18 = .ok (.iadd, 1) by decide +kernel)) rfl
    (sb_cons (pc2 := 22) (sx_puti (show decode cX12_diver 19 = .ok (.putfield 231, 3) by decide +kernel) rfl iX12 tyX12_ok nmX12 (by decide) wd_796 rfl (Or.inl rfl)) rfl
    (sb_cons (pc2 := 23) (sx_aload_n (show decode cX12_diver 22 = .ok (.aload_n 0, 1) by decide +kernel) rfl) rfl
    (sb_cons (pc2 := 26) (sx_getf (show decode cX12_diver 23 = .ok (.getfield 231, 3) by decide +kernel) rfl iX12 (by decide) wd_796) rfl
    (sb_cons (pc2 := 27) (sx_iconst (show decode cX12_diver 26 = .ok (.iconst 1, 1) by decide +kernel) (by decide)) rfl
    (sb_cons (pc2 := 28) (sx_isub (show decode cX12_diver 27 = .ok (.isub, 1) by decide +kernel)) rfl
    (sb_cons (pc2 := 29) (sx_reti (show decode cX12_diver 28 = .ok (.ireturn, 1) by decide +kernel) rfl) rfl sb_nil)))))))))))
  ms_nil))
def kX12_row (X : px_X) : px_B := [(0, [], [px_iload 1, px_push (.int 1), px_push (.int 90), px_cS X 165 3, px_if1 (fun x => decide (x = 0)) 32, px_iload 2, px_push (.int 1), px_push (.int 200), px_cS X 165 3, px_if1 (fun x => decide (x = 0)) 32, px_iload 3, px_push (.int 1), px_push (.int 1440), px_cS X 165 3, px_if1 (fun x => decide (¬ x = 0)) 35], 32),
  (32, [false, false, false, false, false, false], [px_push (.int (-2)), px_reti], 35),
  (35, [true, true, true, true, false, false], [px_push (.int 0), px_istore 4], 38),
  (38, [true, true, true, true, true, false], [px_iload 4, px_aload 0, px_getf 12 26, px_if2 (fun x y => decide (y ≤ x)) 64, px_aload 0, px_getf 12 27, px_iload 4, px_iald 0, px_iload 1, px_if2 (fun x y => decide (y ≤ x)) 64, px_iinc 4 1, px_goto 38], 64),
  (64, [true, true, true, true, true, false], [px_iload 4, px_aload 0, px_getf 12 26, px_if2 (fun x y => decide (x = y)) 84, px_aload 0, px_getf 12 27, px_iload 4, px_iald 0, px_iload 1, px_if2 (fun x y => decide (x = y)) 173], 84),
  (84, [true, true, true, true, true, false], [px_aload 0, px_getf 12 26, px_push (.int 8), px_if2 (fun x y => decide (¬ x = y)) 96, px_push (.int (-4)), px_reti], 96),
  (96, [true, true, true, true, true, false], [px_aload 0, px_getf 12 26, px_istore 5], 102),
  (102, [true, true, true, true, true, true], [px_iload 5, px_iload 4, px_if2 (fun x y => decide (x ≤ y)) 163, px_aload 0, px_getf 12 27, px_iload 5, px_aload 0, px_getf 12 27, px_iload 5, px_push (.int 1), (px_i2 fun x y => x - y), px_iald 0, px_iast 0, px_aload 0, px_getf 12 28, px_iload 5, px_aload 0, px_getf 12 28, px_iload 5, px_push (.int 1), (px_i2 fun x y => x - y), px_iald 0, px_iast 0, px_aload 0, px_getf 12 29, px_iload 5, px_aload 0, px_getf 12 29, px_iload 5, px_push (.int 1), (px_i2 fun x y => x - y), px_iald 0, px_iast 0, px_iinc 5 (-1), px_goto 102], 163),
  (163, [true, true, true, true, true, false], [px_aload 0, px_dup, px_getf 12 26, px_push (.int 1), (px_i2 fun x y => x + y), px_puti 12 26], 173),
  (173, [true, true, true, true, true, false], [px_aload 0, px_getf 12 27, px_iload 4, px_iload 1, px_iast 0, px_aload 0, px_getf 12 28, px_iload 4, px_iload 2, px_iast 0, px_aload 0, px_getf 12 29, px_iload 4, px_iload 3, px_iast 0, px_aload 0, px_getf 12 26, px_reti], 202)]
set_option maxRecDepth 100000 in
set_option maxHeartbeats 8000000 in
theorem sX12_row (d : Nat) (X : px_X) : px_MS d X YX12_row (kX12_row X) :=
  (ms_cons
  (sb_cons (pc2 := 1) (sx_iload_n (show decode cX12_row 0 = .ok (.iload_n 1, 1) by decide +kernel) rfl) rfl
    (sb_cons (pc2 := 2) (sx_iconst (show decode cX12_row 1 = .ok (.iconst 1, 1) by decide +kernel) (by decide)) rfl
    (sb_cons (pc2 := 4) (sx_bipush (show decode cX12_row 2 = .ok (.bipush 90, 2) by decide +kernel) (by decide)) rfl
    (sb_cons (pc2 := 7) (sx_cS (Y' := YX12_in) rfl (show decode cX12_row 4 = .ok (.invokestatic 147, 3) by decide +kernel) rfl (px_w3 wd_717 wd_718 wd_719) wd_716 ⟨by decide, by decide, by decide +kernel⟩ (by decide)) rfl
    (sb_cons (pc2 := 10) (sx_if_eq (show decode cX12_row 7 = .ok (.ifCond .eq 25, 3) by decide +kernel) (by decide)) rfl
    (sb_cons (pc2 := 11) (sx_iload_n (show decode cX12_row 10 = .ok (.iload_n 2, 1) by decide +kernel) rfl) rfl
    (sb_cons (pc2 := 12) (sx_iconst (show decode cX12_row 11 = .ok (.iconst 1, 1) by decide +kernel) (by decide)) rfl
    (sb_cons (pc2 := 15) (sx_sipush (show decode cX12_row 12 = .ok (.sipush 200, 3) by decide +kernel) (by decide)) rfl
    (sb_cons (pc2 := 18) (sx_cS (Y' := YX12_in) rfl (show decode cX12_row 15 = .ok (.invokestatic 147, 3) by decide +kernel) rfl (px_w3 wd_717 wd_718 wd_719) wd_716 ⟨by decide, by decide, by decide +kernel⟩ (by decide)) rfl
    (sb_cons (pc2 := 21) (sx_if_eq (show decode cX12_row 18 = .ok (.ifCond .eq 14, 3) by decide +kernel) (by decide)) rfl
    (sb_cons (pc2 := 22) (sx_iload_n (show decode cX12_row 21 = .ok (.iload_n 3, 1) by decide +kernel) rfl) rfl
    (sb_cons (pc2 := 23) (sx_iconst (show decode cX12_row 22 = .ok (.iconst 1, 1) by decide +kernel) (by decide)) rfl
    (sb_cons (pc2 := 26) (sx_sipush (show decode cX12_row 23 = .ok (.sipush 1440, 3) by decide +kernel) (by decide)) rfl
    (sb_cons (pc2 := 29) (sx_cS (Y' := YX12_in) rfl (show decode cX12_row 26 = .ok (.invokestatic 147, 3) by decide +kernel) rfl (px_w3 wd_717 wd_718 wd_719) wd_716 ⟨by decide, by decide, by decide +kernel⟩ (by decide)) rfl
    (sb_cons (pc2 := 32) (sx_if_ne (show decode cX12_row 29 = .ok (.ifCond .ne 6, 3) by decide +kernel) (by decide)) rfl sb_nil)))))))))))))))
  (ms_cons
  (sb_cons (pc2 := 34) (sx_bipush (show decode cX12_row 32 = .ok (.bipush (-2), 2) by decide +kernel) (by decide)) rfl
    (sb_cons (pc2 := 35) (sx_reti (show decode cX12_row 34 = .ok (.ireturn, 1) by decide +kernel) rfl) rfl sb_nil))
  (ms_cons
  (sb_cons (pc2 := 36) (sx_iconst (show decode cX12_row 35 = .ok (.iconst 0, 1) by decide +kernel) (by decide)) rfl
    (sb_cons (pc2 := 38) (sx_istore (show decode cX12_row 36 = .ok (.istore 4, 2) by decide +kernel)) rfl sb_nil))
  (ms_cons
  (sb_cons (pc2 := 40) (sx_iload (show decode cX12_row 38 = .ok (.iload 4, 2) by decide +kernel)) rfl
    (sb_cons (pc2 := 41) (sx_aload_n (show decode cX12_row 40 = .ok (.aload_n 0, 1) by decide +kernel) rfl) rfl
    (sb_cons (pc2 := 44) (sx_getf (show decode cX12_row 41 = .ok (.getfield 234, 3) by decide +kernel) rfl iX12 (by decide) wd_797) rfl
    (sb_cons (pc2 := 47) (sx_icmp_ge (show decode cX12_row 44 = .ok (.if_icmp .ge 20, 3) by decide +kernel) (by decide)) rfl
    (sb_cons (pc2 := 48) (sx_aload_n (show decode cX12_row 47 = .ok (.aload_n 0, 1) by decide +kernel) rfl) rfl
    (sb_cons (pc2 := 51) (sx_getf (show decode cX12_row 48 = .ok (.getfield 72, 3) by decide +kernel) rfl iX12 (by decide) wd_691) rfl
    (sb_cons (pc2 := 53) (sx_iload (show decode cX12_row 51 = .ok (.iload 4, 2) by decide +kernel)) rfl
    (sb_cons (pc2 := 54) (sx_iald (show decode cX12_row 53 = .ok (.iaload, 1) by decide +kernel)) rfl
    (sb_cons (pc2 := 55) (sx_iload_n (show decode cX12_row 54 = .ok (.iload_n 1, 1) by decide +kernel) rfl) rfl
    (sb_cons (pc2 := 58) (sx_icmp_ge (show decode cX12_row 55 = .ok (.if_icmp .ge 9, 3) by decide +kernel) (by decide)) rfl
    (sb_cons (pc2 := 61) (sx_iinc (show decode cX12_row 58 = .ok (.iinc 4 1, 3) by decide +kernel) (by decide)) rfl
    (sb_cons (pc2 := 64) (px_snd_goto (show decode cX12_row 61 = .ok (.goto (-23), 3) by decide +kernel) (by decide)) rfl sb_nil))))))))))))
  (ms_cons
  (sb_cons (pc2 := 66) (sx_iload (show decode cX12_row 64 = .ok (.iload 4, 2) by decide +kernel)) rfl
    (sb_cons (pc2 := 67) (sx_aload_n (show decode cX12_row 66 = .ok (.aload_n 0, 1) by decide +kernel) rfl) rfl
    (sb_cons (pc2 := 70) (sx_getf (show decode cX12_row 67 = .ok (.getfield 234, 3) by decide +kernel) rfl iX12 (by decide) wd_797) rfl
    (sb_cons (pc2 := 73) (sx_icmp_eq (show decode cX12_row 70 = .ok (.if_icmp .eq 14, 3) by decide +kernel) (by decide)) rfl
    (sb_cons (pc2 := 74) (sx_aload_n (show decode cX12_row 73 = .ok (.aload_n 0, 1) by decide +kernel) rfl) rfl
    (sb_cons (pc2 := 77) (sx_getf (show decode cX12_row 74 = .ok (.getfield 72, 3) by decide +kernel) rfl iX12 (by decide) wd_691) rfl
    (sb_cons (pc2 := 79) (sx_iload (show decode cX12_row 77 = .ok (.iload 4, 2) by decide +kernel)) rfl
    (sb_cons (pc2 := 80) (sx_iald (show decode cX12_row 79 = .ok (.iaload, 1) by decide +kernel)) rfl
    (sb_cons (pc2 := 81) (sx_iload_n (show decode cX12_row 80 = .ok (.iload_n 1, 1) by decide +kernel) rfl) rfl
    (sb_cons (pc2 := 84) (sx_icmp_eq (show decode cX12_row 81 = .ok (.if_icmp .eq 92, 3) by decide +kernel) (by decide)) rfl sb_nil))))))))))
  (ms_cons
  (sb_cons (pc2 := 85) (sx_aload_n (show decode cX12_row 84 = .ok (.aload_n 0, 1) by decide +kernel) rfl) rfl
    (sb_cons (pc2 := 88) (sx_getf (show decode cX12_row 85 = .ok (.getfield 234, 3) by decide +kernel) rfl iX12 (by decide) wd_797) rfl
    (sb_cons (pc2 := 90) (sx_bipush (show decode cX12_row 88 = .ok (.bipush 8, 2) by decide +kernel) (by decide)) rfl
    (sb_cons (pc2 := 93) (sx_icmp_ne (show decode cX12_row 90 = .ok (.if_icmp .ne 6, 3) by decide +kernel) (by decide)) rfl
    (sb_cons (pc2 := 95) (sx_bipush (show decode cX12_row 93 = .ok (.bipush (-4), 2) by decide +kernel) (by decide)) rfl
    (sb_cons (pc2 := 96) (sx_reti (show decode cX12_row 95 = .ok (.ireturn, 1) by decide +kernel) rfl) rfl sb_nil))))))
  (ms_cons
  (sb_cons (pc2 := 97) (sx_aload_n (show decode cX12_row 96 = .ok (.aload_n 0, 1) by decide +kernel) rfl) rfl
    (sb_cons (pc2 := 100) (sx_getf (show decode cX12_row 97 = .ok (.getfield 234, 3) by decide +kernel) rfl iX12 (by decide) wd_797) rfl
    (sb_cons (pc2 := 102) (sx_istore (show decode cX12_row 100 = .ok (.istore 5, 2) by decide +kernel)) rfl sb_nil)))
  (ms_cons
  (sb_cons (pc2 := 104) (sx_iload (show decode cX12_row 102 = .ok (.iload 5, 2) by decide +kernel)) rfl
    (sb_cons (pc2 := 106) (sx_iload (show decode cX12_row 104 = .ok (.iload 4, 2) by decide +kernel)) rfl
    (sb_cons (pc2 := 109) (sx_icmp_le (show decode cX12_row 106 = .ok (.if_icmp .le 57, 3) by decide +kernel) (by decide)) rfl
    (sb_cons (pc2 := 110) (sx_aload_n (show decode cX12_row 109 = .ok (.aload_n 0, 1) by decide +kernel) rfl) rfl
    (sb_cons (pc2 := 113) (sx_getf (show decode cX12_row 110 = .ok (.getfield 72, 3) by decide +kernel) rfl iX12 (by decide) wd_691) rfl
    (sb_cons (pc2 := 115) (sx_iload (show decode cX12_row 113 = .ok (.iload 5, 2) by decide +kernel)) rfl
    (sb_cons (pc2 := 116) (sx_aload_n (show decode cX12_row 115 = .ok (.aload_n 0, 1) by decide +kernel) rfl) rfl
    (sb_cons (pc2 := 119) (sx_getf (show decode cX12_row 116 = .ok (.getfield 72, 3) by decide +kernel) rfl iX12 (by decide) wd_691) rfl
    (sb_cons (pc2 := 121) (sx_iload (show decode cX12_row 119 = .ok (.iload 5, 2) by decide +kernel)) rfl
    (sb_cons (pc2 := 122) (sx_iconst (show decode cX12_row 121 = .ok (.iconst 1, 1) by decide +kernel) (by decide)) rfl
    (sb_cons (pc2 := 123) (sx_isub (show decode cX12_row 122 = .ok (.isub, 1) by decide +kernel)) rfl
    (sb_cons (pc2 := 124) (sx_iald (show decode cX12_row 123 = .ok (.iaload, 1) by decide +kernel)) rfl
    (sb_cons (pc2 := 125) (sx_iast (show decode cX12_row 124 = .ok (.iastore, 1) by decide +kernel)) rfl
    (sb_cons (pc2 := 126) (sx_aload_n (show decode cX12_row 125 = .ok (.aload_n 0, 1) by decide +kernel) rfl) rfl
    (sb_cons (pc2 := 129) (sx_getf (show decode cX12_row 126 = .ok (.getfield 75, 3) by decide +kernel) rfl iX12 (by decide) wd_692) rfl
    (sb_cons (pc2 := 131) (sx_iload (show decode cX12_row 129 = .ok (.iload 5, 2) by decide +kernel)) rfl
    (sb_cons (pc2 := 132) (sx_aload_n (show decode cX12_row 131 = .ok (.aload_n 0, 1) by decide +kernel) rfl) rfl
    (sb_cons (pc2 := 135) (sx_getf (show decode cX12_row 132 = .ok (.getfield 75, 3) by decide +kernel) rfl iX12 (by decide) wd_692) rfl
    (sb_cons (pc2 := 137) (sx_iload (show decode cX12_row 135 = .ok (.iload 5, 2) by decide +kernel)) rfl
    (sb_cons (pc2 := 138) (sx_iconst (show decode cX12_row 137 = .ok (.iconst 1, 1) by decide +kernel) (by decide)) rfl
    (sb_cons (pc2 := 139) (sx_isub (show decode cX12_row 138 = .ok (.isub, 1) by decide +kernel)) rfl
    (sb_cons (pc2 := 140) (sx_iald (show decode cX12_row 139 = .ok (.iaload, 1) by decide +kernel)) rfl
    (sb_cons (pc2 := 141) (sx_iast (show decode cX12_row 140 = .ok (.iastore, 1) by decide +kernel)) rfl
    (sb_cons (pc2 := 142) (sx_aload_n (show decode cX12_row 141 = .ok (.aload_n 0, 1) by decide +kernel) rfl) rfl
    (sb_cons (pc2 := 145) (sx_getf (show decode cX12_row 142 = .ok (.getfield 78, 3) by decide +kernel) rfl iX12 (by decide) wd_693) rfl
    (sb_cons (pc2 := 147) (sx_iload (show decode cX12_row 145 = .ok (.iload 5, 2) by decide +kernel)) rfl
    (sb_cons (pc2 := 148) (sx_aload_n (show decode cX12_row 147 = .ok (.aload_n 0, 1) by decide +kernel) rfl) rfl
    (sb_cons (pc2 := 151) (sx_getf (show decode cX12_row 148 = .ok (.getfield 78, 3) by decide +kernel) rfl iX12 (by decide) wd_693) rfl
    (sb_cons (pc2 := 153) (sx_iload (show decode cX12_row 151 = .ok (.iload 5, 2) by decide +kernel)) rfl
    (sb_cons (pc2 := 154) (sx_iconst (show decode cX12_row 153 = .ok (.iconst 1, 1) by decide +kernel) (by decide)) rfl
    (sb_cons (pc2 := 155) (sx_isub (show decode cX12_row 154 = .ok (.isub, 1) by decide +kernel)) rfl
    (sb_cons (pc2 := 156) (sx_iald (show decode cX12_row 155 = .ok (.iaload, 1) by decide +kernel)) rfl
    (sb_cons (pc2 := 157) (sx_iast (show decode cX12_row 156 = .ok (.iastore, 1) by decide +kernel)) rfl
    (sb_cons (pc2 := 160) (sx_iinc (show decode cX12_row 157 = .ok (.iinc 5 (-1), 3) by decide +kernel) (by decide)) rfl
    (sb_cons (pc2 := 163) (px_snd_goto (show decode cX12_row 160 = .ok (.goto (-58), 3) by decide +kernel) (by decide)) rfl sb_nil)))))))))))))))))))))))))))))))))))
  (ms_cons
  (sb_cons (pc2 := 164) (sx_aload_n (show decode cX12_row 163 = .ok (.aload_n 0, 1) by decide +kernel) rfl) rfl
    (sb_cons (pc2 := 165) (sx_dup (show decode cX12_row 164 = .ok (.dup, 1) by decide +kernel)) rfl
    (sb_cons (pc2 := 168) (sx_getf (show decode cX12_row 165 = .ok (.getfield 234, 3) by decide +kernel) rfl iX12 (by decide) wd_797) rfl
    (sb_cons (pc2 := 169) (sx_iconst (show decode cX12_row 168 = .ok (.iconst 1, 1) by decide +kernel) (by decide)) rfl
    (sb_cons (pc2 := 170) (sx_iadd (show decode cX12_row 169 = .ok (.iadd, 1) by decide +kernel)) rfl
    (sb_cons (pc2 := 173) (sx_puti (show decode cX12_row 170 = .ok (.putfield 234, 3) by decide +kernel) rfl iX12 tyX12_ok nmX12 (by decide) wd_797 rfl (Or.inl rfl)) rfl sb_nil))))))
  (ms_cons
  (sb_cons (pc2 := 174) (sx_aload_n (show decode cX12_row 173 = .ok (.aload_n 0, 1) by decide +kernel) rfl) rfl
    (sb_cons (pc2 := 177) (sx_getf (show decode cX12_row 174 = .ok (.getfield 72, 3) by decide +kernel) rfl iX12 (by decide) wd_691) rfl
    (sb_cons (pc2 := 179) (sx_iload (show decode cX12_row 177 = .ok (.iload 4, 2) by decide +kernel)) rfl
    (sb_cons (pc2 := 180) (sx_iload_n (show decode cX12_row 179 = .ok (.iload_n 1, 1) by decide +kernel) rfl) rfl
    (sb_cons (pc2 := 181) (sx_iast (show decode cX12_row 180 = .ok (.iastore, 1) by decide +kernel)) rfl
    (sb_cons (pc2 := 182) (sx_aload_n (show decode cX12_row 181 = .ok (.aload_n 0, 1) by decide +kernel) rfl) rfl
    (sb_cons (pc2 := 185) (sx_getf (show decode cX12_row 182 = .ok (.getfield 75, 3) by decide +kernel) rfl iX12 (by decide) wd_692) rfl
    (sb_cons (pc2 := 187) (sx_iload (show decode cX12_row 185 = .ok (.iload 4, 2) by decide +kernel)) rfl
    (sb_cons (pc2 := 188) (sx_iload_n (show decode cX12_row 187 = .ok (.iload_n 2, 1) by decide +kernel) rfl) rfl
    (sb_cons (pc2 := 189) (sx_iast (show decode cX12_row 188 = .ok (.iastore, 1) by decide +kernel)) rfl
    (sb_cons (pc2 := 190) (sx_aload_n (show decode cX12_row 189 = .ok (.aload_n 0, 1) by decide +kernel) rfl) rfl
    (sb_cons (pc2 := 193) (sx_getf (show decode cX12_row 190 = .ok (.getfield 78, 3) by decide +kernel) rfl iX12 (by decide) wd_693) rfl
    (sb_cons (pc2 := 195) (sx_iload (show decode cX12_row 193 = .ok (.iload 4, 2) by decide +kernel)) rfl
    (sb_cons (pc2 := 196) (sx_iload_n (show decode cX12_row 195 = .ok (.iload_n 3, 1) by decide +kernel) rfl) rfl
    (sb_cons (pc2 := 197) (sx_iast (show decode cX12_row 196 = .ok (.iastore, 1) by decide +kernel)) rfl
    (sb_cons (pc2 := 198) (sx_aload_n (show decode cX12_row 197 = .ok (.aload_n 0, 1) by decide +kernel) rfl) rfl
    (sb_cons (pc2 := 201) (sx_getf (show decode cX12_row 198 = .ok (.getfield 234, 3) by decide +kernel) rfl iX12 (by decide) wd_797) rfl
    (sb_cons (pc2 := 202) (sx_reti (show decode cX12_row 201 = .ok (.ireturn, 1) by decide +kernel) rfl) rfl sb_nil))))))))))))))))))
  ms_nil))))))))))
def kX12_rowOf (X : px_X) : px_B := [(0, [], [px_push (.int 0), px_istore 2], 2),
  (2, [true, true, true], [px_iload 2, px_aload 0, px_getf 12 26, px_if2 (fun x y => decide (y ≤ x)) 28, px_aload 0, px_getf 12 27, px_iload 2, px_iald 0, px_iload 1, px_if2 (fun x y => decide (x < y)) 22, px_iload 2, px_reti], 22),
  (22, [true, true, true], [px_iinc 2 1, px_goto 2], 28),
  (28, [false, false, false], [px_push (.int (-1)), px_reti], 30)]
set_option maxRecDepth 100000 in
set_option maxHeartbeats 8000000 in
theorem sX12_rowOf (d : Nat) (X : px_X) : px_MS d X YX12_rowOf (kX12_rowOf X) :=
  (ms_cons
  (sb_cons (pc2 := 1) (sx_iconst (show decode cX12_rowOf 0 = .ok (.iconst 0, 1) by decide +kernel) (by decide)) rfl
    (sb_cons (pc2 := 2) (sx_istore_n (show decode cX12_rowOf 1 = .ok (.istore_n 2, 1) by decide +kernel) rfl) rfl sb_nil))
  (ms_cons
  (sb_cons (pc2 := 3) (sx_iload_n (show decode cX12_rowOf 2 = .ok (.iload_n 2, 1) by decide +kernel) rfl) rfl
    (sb_cons (pc2 := 4) (sx_aload_n (show decode cX12_rowOf 3 = .ok (.aload_n 0, 1) by decide +kernel) rfl) rfl
    (sb_cons (pc2 := 7) (sx_getf (show decode cX12_rowOf 4 = .ok (.getfield 234, 3) by decide +kernel) rfl iX12 (by decide) wd_797) rfl
    (sb_cons (pc2 := 10) (sx_icmp_ge (show decode cX12_rowOf 7 = .ok (.if_icmp .ge 21, 3) by decide +kernel) (by decide)) rfl
    (sb_cons (pc2 := 11) (sx_aload_n (show decode cX12_rowOf 10 = .ok (.aload_n 0, 1) by decide +kernel) rfl) rfl
    (sb_cons (pc2 := 14) (sx_getf (show decode cX12_rowOf 11 = .ok (.getfield 72, 3) by decide +kernel) rfl iX12 (by decide) wd_691) rfl
    (sb_cons (pc2 := 15) (sx_iload_n (show decode cX12_rowOf 14 = .ok (.iload_n 2, 1) by decide +kernel) rfl) rfl
    (sb_cons (pc2 := 16) (sx_iald (show decode cX12_rowOf 15 = .ok (.iaload, 1) by decide +kernel)) rfl
    (sb_cons (pc2 := 17) (sx_iload_n (show decode cX12_rowOf 16 = .ok (.iload_n 1, 1) by decide +kernel) rfl) rfl
    (sb_cons (pc2 := 20) (sx_icmp_lt (show decode cX12_rowOf 17 = .ok (.if_icmp .lt 5, 3) by decide +kernel) (by decide)) rfl
    (sb_cons (pc2 := 21) (sx_iload_n (show decode cX12_rowOf 20 = .ok (.iload_n 2, 1) by decide +kernel) rfl) rfl
    (sb_cons (pc2 := 22) (sx_reti (show decode cX12_rowOf 21 = .ok (.ireturn, 1) by decide +kernel) rfl) rfl sb_nil))))))))))))
  (ms_cons
  (sb_cons (pc2 := 25) (sx_iinc (show decode cX12_rowOf 22 = .ok (.iinc 2 1, 3) by decide +kernel) (by decide)) rfl
    (sb_cons (pc2 := 28) (px_snd_goto (show decode cX12_rowOf 25 = .ok (.goto (-23), 3) by decide +kernel) (by decide)) rfl sb_nil))
  (ms_cons
  (sb_cons (pc2 := 29) (sx_iconst (show decode cX12_rowOf 28 = .ok (.iconst (-1), 1) by decide +kernel) (by decide)) rfl
    (sb_cons (pc2 := 30) (sx_reti (show decode cX12_rowOf 29 = .ok (.ireturn, 1) by decide +kernel) rfl) rfl sb_nil))
  ms_nil))))
def kX12_restOf (X : px_X) : px_B := [(0, [], [px_aload 0, px_iload 1, px_cV X 197 2 12, px_istore 2, px_iload 2, px_push (.int (-1)), px_if2 (fun x y => decide (¬ x = y)) 15, px_push (.int 0), px_goto 21], 15),
  (15, [true, false, true], [px_aload 0, px_getf 12 29, px_iload 2, px_iald 0], 21),
  (21, [false, false, false], [px_reti], 22)]
set_option maxRecDepth 100000 in
set_option maxHeartbeats 8000000 in
theorem sX12_restOf (d : Nat) (X : px_X) : px_MS d X YX12_restOf (kX12_restOf X) :=
  (ms_cons
  (sb_cons (pc2 := 1) (sx_aload_n (show decode cX12_restOf 0 = .ok (.aload_n 0, 1) by decide +kernel) rfl) rfl
    (sb_cons (pc2 := 2) (sx_iload_n (show decode cX12_restOf 1 = .ok (.iload_n 1, 1) by decide +kernel) rfl) rfl
    (sb_cons (pc2 := 5) (sx_cV (Y' := YX12_rowOf) (q := (RX12, TX12, 69)) rfl (show decode cX12_restOf 2 = .ok (.invokevirtual 237, 3) by decide +kernel) rfl rfl (px_w4 wd_799 wd_800 wd_801 wd_719) wd_798 ⟨by decide, by decide, by decide +kernel⟩ (by decide)) rfl
    (sb_cons (pc2 := 6) (sx_istore_n (show decode cX12_restOf 5 = .ok (.istore_n 2, 1) by decide +kernel) rfl) rfl
    (sb_cons (pc2 := 7) (sx_iload_n (show decode cX12_restOf 6 = .ok (.iload_n 2, 1) by decide +kernel) rfl) rfl
    (sb_cons (pc2 := 8) (sx_iconst (show decode cX12_restOf 7 = .ok (.iconst (-1), 1) by decide +kernel) (by decide)) rfl
    (sb_cons (pc2 := 11) (sx_icmp_ne (show decode cX12_restOf 8 = .ok (.if_icmp .ne 7, 3) by decide +kernel) (by decide)) rfl
    (sb_cons (pc2 := 12) (sx_iconst (show decode cX12_restOf 11 = .ok (.iconst 0, 1) by decide +kernel) (by decide)) rfl
    (sb_cons (pc2 := 15) (px_snd_goto (show decode cX12_restOf 12 = .ok (.goto 9, 3) by decide +kernel) (by decide)) rfl sb_nil)))))))))
  (ms_cons
  (sb_cons (pc2 := 16) (sx_aload_n (show decode cX12_restOf 15 = .ok (.aload_n 0, 1) by decide +kernel) rfl) rfl
    (sb_cons (pc2 := 19) (sx_getf (show decode cX12_restOf 16 = .ok (.getfield 78, 3) by decide +kernel) rfl iX12 (by decide) wd_693) rfl
    (sb_cons (pc2 := 20) (sx_iload_n (show decode cX12_restOf 19 = .ok (.iload_n 2, 1) by decide +kernel) rfl) rfl
    (sb_cons (pc2 := 21) (sx_iald (show decode cX12_restOf 20 = .ok (.iaload, 1) by decide +kernel)) rfl sb_nil))))
  (ms_cons
  (sb_cons (pc2 := 22) (sx_reti (show decode cX12_restOf 21 = .ok (.ireturn, 1) by decide +kernel) rfl) rfl sb_nil)
  ms_nil)))
def kX12_isOf (X : px_X) : px_B := [(0, [], [px_aload 0, px_getf 12 31, px_iload 1, px_iald 0, px_iload 2, px_if2 (fun x y => decide (x = y)) 40, px_aload 0, px_getf 12 32, px_iload 1, px_iald 0, px_iload 2, px_if2 (fun x y => decide (x = y)) 40, px_aload 0, px_getf 12 31, px_iload 1, px_iald 0, px_iload 3, px_if2 (fun x y => decide (x = y)) 40, px_aload 0, px_getf 12 32, px_iload 1, px_iald 0, px_iload 3, px_if2 (fun x y => decide (¬ x = y)) 44], 40),
  (40, [false, false, false, false], [px_push (.int 1), px_goto 45], 44),
  (44, [false, false, false, false], [px_push (.int 0)], 45),
  (45, [false, false, false, false], [px_retz], 46)]
set_option maxRecDepth 100000 in
set_option maxHeartbeats 8000000 in
theorem sX12_isOf (d : Nat) (X : px_X) : px_MS d X YX12_isOf (kX12_isOf X) :=
  (ms_cons
  (sb_cons (pc2 := 1) (sx_aload_n (show decode cX12_isOf 0 = .ok (.aload_n 0, 1) by decide +kernel) rfl) rfl
    (sb_cons (pc2 := 4) (sx_getf (show decode cX12_isOf 1 = .ok (.getfield 81, 3) by decide +kernel) rfl iX12 (by decide) wd_694) rfl
    (sb_cons (pc2 := 5) (sx_iload_n (show decode cX12_isOf 4 = .ok (.iload_n 1, 1) by decide +kernel) rfl) rfl
    (sb_cons (pc2 := 6) (sx_iald (show decode cX12_isOf 5 = .ok (.iaload, 1) by decide +kernel)) rfl
    (sb_cons (pc2 := 7) (sx_iload_n (show decode cX12_isOf 6 = .ok (.iload_n 2, 1) by decide +kernel) rfl) rfl
    (sb_cons (pc2 := 10) (sx_icmp_eq (show decode cX12_isOf 7 = .ok (.if_icmp .eq 33, 3) by decide +kernel) (by decide)) rfl
    (sb_cons (pc2 := 11) (sx_aload_n (show decode cX12_isOf 10 = .ok (.aload_n 0, 1) by decide +kernel) rfl) rfl
    (sb_cons (pc2 := 14) (sx_getf (show decode cX12_isOf 11 = .ok (.getfield 84, 3) by decide +kernel) rfl iX12 (by decide) wd_695) rfl
    (sb_cons (pc2 := 15) (sx_iload_n (show decode cX12_isOf 14 = .ok (.iload_n 1, 1) by decide +kernel) rfl) rfl
    (sb_cons (pc2 := 16) (sx_iald (show decode cX12_isOf 15 = .ok (.iaload, 1) by decide +kernel)) rfl
    (sb_cons (pc2 := 17) (sx_iload_n (show decode cX12_isOf 16 = .ok (.iload_n 2, 1) by decide +kernel) rfl) rfl
    (sb_cons (pc2 := 20) (sx_icmp_eq (show decode cX12_isOf 17 = .ok (.if_icmp .eq 23, 3) by decide +kernel) (by decide)) rfl
    (sb_cons (pc2 := 21) (sx_aload_n (show decode cX12_isOf 20 = .ok (.aload_n 0, 1) by decide +kernel) rfl) rfl
    (sb_cons (pc2 := 24) (sx_getf (show decode cX12_isOf 21 = .ok (.getfield 81, 3) by decide +kernel) rfl iX12 (by decide) wd_694) rfl
    (sb_cons (pc2 := 25) (sx_iload_n (show decode cX12_isOf 24 = .ok (.iload_n 1, 1) by decide +kernel) rfl) rfl
    (sb_cons (pc2 := 26) (sx_iald (show decode cX12_isOf 25 = .ok (.iaload, 1) by decide +kernel)) rfl
    (sb_cons (pc2 := 27) (sx_iload_n (show decode cX12_isOf 26 = .ok (.iload_n 3, 1) by decide +kernel) rfl) rfl
    (sb_cons (pc2 := 30) (sx_icmp_eq (show decode cX12_isOf 27 = .ok (.if_icmp .eq 13, 3) by decide +kernel) (by decide)) rfl
    (sb_cons (pc2 := 31) (sx_aload_n (show decode cX12_isOf 30 = .ok (.aload_n 0, 1) by decide +kernel) rfl) rfl
    (sb_cons (pc2 := 34) (sx_getf (show decode cX12_isOf 31 = .ok (.getfield 84, 3) by decide +kernel) rfl iX12 (by decide) wd_695) rfl
    (sb_cons (pc2 := 35) (sx_iload_n (show decode cX12_isOf 34 = .ok (.iload_n 1, 1) by decide +kernel) rfl) rfl
    (sb_cons (pc2 := 36) (sx_iald (show decode cX12_isOf 35 = .ok (.iaload, 1) by decide +kernel)) rfl
    (sb_cons (pc2 := 37) (sx_iload_n (show decode cX12_isOf 36 = .ok (.iload_n 3, 1) by decide +kernel) rfl) rfl
    (sb_cons (pc2 := 40) (sx_icmp_ne (show decode cX12_isOf 37 = .ok (.if_icmp .ne 7, 3) by decide +kernel) (by decide)) rfl sb_nil))))))))))))))))))))))))
  (ms_cons
  (sb_cons (pc2 := 41) (sx_iconst (show decode cX12_isOf 40 = .ok (.iconst 1, 1) by decide +kernel) (by decide)) rfl
    (sb_cons (pc2 := 44) (px_snd_goto (show decode cX12_isOf 41 = .ok (.goto 4, 3) by decide +kernel) (by decide)) rfl sb_nil))
  (ms_cons
  (sb_cons (pc2 := 45) (sx_iconst (show decode cX12_isOf 44 = .ok (.iconst 0, 1) by decide +kernel) (by decide)) rfl sb_nil)
  (ms_cons
  (sb_cons (pc2 := 46) (sx_retz (show decode cX12_isOf 45 = .ok (.ireturn, 1) by decide +kernel) rfl) rfl sb_nil)
  ms_nil))))
def kX12_minutesOn (X : px_X) : px_B := [(0, [], [px_push (.int 0), px_istore 3, px_push (.int 0), px_istore 4], 5),
  (5, [true, true, true, true, true], [px_iload 4, px_aload 0, px_getf 12 30, px_if2 (fun x y => decide (y ≤ x)) 71, px_iload 3, px_aload 0, px_getf 12 31, px_iload 4, px_iald 0, px_iload 1, px_if2 (fun x y => decide (x = y)) 37, px_aload 0, px_getf 12 32, px_iload 4, px_iald 0, px_iload 1, px_if2 (fun x y => decide (¬ x = y)) 62], 37),
  (37, [true, true, true, false, true], [px_aload 0, px_getf 12 33, px_iload 4, px_iald 0, px_push (.int 1440), (px_i2d fun x y => x / y), px_iload 2, px_if2 (fun x y => decide (¬ x = y)) 62, px_aload 0, px_getf 12 35, px_iload 4, px_iald 0, px_goto 63], 62),
  (62, [true, true, true, false, true], [px_push (.int 0)], 63),
  (63, [true, true, true, false, true], [(px_i2 fun x y => x + y), px_istore 3, px_iinc 4 1, px_goto 5], 71),
  (71, [false, false, false, true, false], [px_iload 3, px_reti], 73)]
set_option maxRecDepth 100000 in
set_option maxHeartbeats 8000000 in
theorem sX12_minutesOn (d : Nat) (X : px_X) : px_MS d X YX12_minutesOn (kX12_minutesOn X) :=
  (ms_cons
  (sb_cons (pc2 := 1) (sx_iconst (show decode cX12_minutesOn 0 = .ok (.iconst 0, 1) by decide +kernel) (by decide)) rfl
    (sb_cons (pc2 := 2) (sx_istore_n (show decode cX12_minutesOn 1 = .ok (.istore_n 3, 1) by decide +kernel) rfl) rfl
    (sb_cons (pc2 := 3) (sx_iconst (show decode cX12_minutesOn 2 = .ok (.iconst 0, 1) by decide +kernel) (by decide)) rfl
    (sb_cons (pc2 := 5) (sx_istore (show decode cX12_minutesOn 3 = .ok (.istore 4, 2) by decide +kernel)) rfl sb_nil))))
  (ms_cons
  (sb_cons (pc2 := 7) (sx_iload (show decode cX12_minutesOn 5 = .ok (.iload 4, 2) by decide +kernel)) rfl
    (sb_cons (pc2 := 8) (sx_aload_n (show decode cX12_minutesOn 7 = .ok (.aload_n 0, 1) by decide +kernel) rfl) rfl
    (sb_cons (pc2 := 11) (sx_getf (show decode cX12_minutesOn 8 = .ok (.getfield 240, 3) by decide +kernel) rfl iX12 (by decide) wd_802) rfl
    (sb_cons (pc2 := 14) (sx_icmp_ge (show decode cX12_minutesOn 11 = .ok (.if_icmp .ge 60, 3) by decide +kernel) (by decide)) rfl
    (sb_cons (pc2 := 15) (sx_iload_n (show decode cX12_minutesOn 14 = .ok (.iload_n 3, 1) by decide +kernel) rfl) rfl
    (sb_cons (pc2 := 16) (sx_aload_n (show decode cX12_minutesOn 15 = .ok (.aload_n 0, 1) by decide +kernel) rfl) rfl
    (sb_cons (pc2 := 19) (sx_getf (show decode cX12_minutesOn 16 = .ok (.getfield 81, 3) by decide +kernel) rfl iX12 (by decide) wd_694) rfl
    (sb_cons (pc2 := 21) (sx_iload (show decode cX12_minutesOn 19 = .ok (.iload 4, 2) by decide +kernel)) rfl
    (sb_cons (pc2 := 22) (sx_iald (show decode cX12_minutesOn 21 = .ok (.iaload, 1) by decide +kernel)) rfl
    (sb_cons (pc2 := 23) (sx_iload_n (show decode cX12_minutesOn 22 = .ok (.iload_n 1, 1) by decide +kernel) rfl) rfl
    (sb_cons (pc2 := 26) (sx_icmp_eq (show decode cX12_minutesOn 23 = .ok (.if_icmp .eq 14, 3) by decide +kernel) (by decide)) rfl
    (sb_cons (pc2 := 27) (sx_aload_n (show decode cX12_minutesOn 26 = .ok (.aload_n 0, 1) by decide +kernel) rfl) rfl
    (sb_cons (pc2 := 30) (sx_getf (show decode cX12_minutesOn 27 = .ok (.getfield 84, 3) by decide +kernel) rfl iX12 (by decide) wd_695) rfl
    (sb_cons (pc2 := 32) (sx_iload (show decode cX12_minutesOn 30 = .ok (.iload 4, 2) by decide +kernel)) rfl
    (sb_cons (pc2 := 33) (sx_iald (show decode cX12_minutesOn 32 = .ok (.iaload, 1) by decide +kernel)) rfl
    (sb_cons (pc2 := 34) (sx_iload_n (show decode cX12_minutesOn 33 = .ok (.iload_n 1, 1) by decide +kernel) rfl) rfl
    (sb_cons (pc2 := 37) (sx_icmp_ne (show decode cX12_minutesOn 34 = .ok (.if_icmp .ne 28, 3) by decide +kernel) (by decide)) rfl sb_nil)))))))))))))))))
  (ms_cons
  (sb_cons (pc2 := 38) (sx_aload_n (show decode cX12_minutesOn 37 = .ok (.aload_n 0, 1) by decide +kernel) rfl) rfl
    (sb_cons (pc2 := 41) (sx_getf (show decode cX12_minutesOn 38 = .ok (.getfield 87, 3) by decide +kernel) rfl iX12 (by decide) wd_696) rfl
    (sb_cons (pc2 := 43) (sx_iload (show decode cX12_minutesOn 41 = .ok (.iload 4, 2) by decide +kernel)) rfl
    (sb_cons (pc2 := 44) (sx_iald (show decode cX12_minutesOn 43 = .ok (.iaload, 1) by decide +kernel)) rfl
    (sb_cons (pc2 := 47) (sx_sipush (show decode cX12_minutesOn 44 = .ok (.sipush 1440, 3) by decide +kernel) (by decide)) rfl
    (sb_cons (pc2 := 48) (sx_idiv (show decode cX12_minutesOn 47 = .ok (.idiv, 1) by decide +kernel)) rfl
    (sb_cons (pc2 := 49) (sx_iload_n (show decode cX12_minutesOn 48 = .ok (.iload_n 2, 1) by decide +kernel) rfl) rfl
    (sb_cons (pc2 := 52) (sx_icmp_ne (show decode cX12_minutesOn 49 = .ok (.if_icmp .ne 13, 3) by decide +kernel) (by decide)) rfl
    (sb_cons (pc2 := 53) (sx_aload_n (show decode cX12_minutesOn 52 = .ok (.aload_n 0, 1) by decide +kernel) rfl) rfl
    (sb_cons (pc2 := 56) (sx_getf (show decode cX12_minutesOn 53 = .ok (.getfield 93, 3) by decide +kernel) rfl iX12 (by decide) wd_698) rfl
    (sb_cons (pc2 := 58) (sx_iload (show decode cX12_minutesOn 56 = .ok (.iload 4, 2) by decide +kernel)) rfl
    (sb_cons (pc2 := 59) (sx_iald (show decode cX12_minutesOn 58 = .ok (.iaload, 1) by decide +kernel)) rfl
    (sb_cons (pc2 := 62) (px_snd_goto (show decode cX12_minutesOn 59 = .ok (.goto 4, 3) by decide +kernel) (by decide)) rfl sb_nil)))))))))))))
  (ms_cons
  (sb_cons (pc2 := 63) (sx_iconst (show decode cX12_minutesOn 62 = .ok (.iconst 0, 1) by decide +kernel) (by decide)) rfl sb_nil)
  (ms_cons
  (sb_cons (pc2 := 64) (sx_iadd (show decode cX12_minutesOn 63 = .ok (.iadd, 1) by decide +kernel)) rfl
    (sb_cons (pc2 := 65) (sx_istore_n (show decode cX12_minutesOn 64 = .ok (.istore_n 3, 1) by decide +kernel) rfl) rfl
    (sb_cons (pc2 := 68) (sx_iinc (show decode cX12_minutesOn 65 = .ok (.iinc 4 1, 3) by decide +kernel) (by decide)) rfl
    (sb_cons (pc2 := 71) (px_snd_goto (show decode cX12_minutesOn 68 = .ok (.goto (-63), 3) by decide +kernel) (by decide)) rfl sb_nil))))
  (ms_cons
  (sb_cons (pc2 := 72) (sx_iload_n (show decode cX12_minutesOn 71 = .ok (.iload_n 3, 1) by decide +kernel) rfl) rfl
    (sb_cons (pc2 := 73) (sx_reti (show decode cX12_minutesOn 72 = .ok (.ireturn, 1) by decide +kernel) rfl) rfl sb_nil))
  ms_nil))))))
def kX12_refused (X : px_X) : px_B := [(0, [], [px_aload 0, px_iload 4, px_cV X 197 2 12, px_istore 6, px_iload 6, px_push (.int (-1)), px_if2 (fun x y => decide (¬ x = y)) 16, px_push (.int 1), px_reti], 16),
  (16, [true, true, true, true, true, true, true], [px_iload 5, px_aload 0, px_getf 12 28, px_iload 6, px_iald 0, px_if2 (fun x y => decide (x ≤ y)) 32, px_push (.int 2), px_goto 43], 32),
  (32, [true, true, true, true, true, true, false], [px_aload 0, px_iload 1, px_iload 2, px_iload 3, px_iload 4, px_iload 5, px_cV X 202 6 12], 43),
  (43, [false, false, false, false, false, false, false], [px_reti], 44)]
set_option maxRecDepth 100000 in
set_option maxHeartbeats 8000000 in
theorem sX12_refused (d : Nat) (X : px_X) : px_MS d X YX12_refused (kX12_refused X) :=
  (ms_cons
  (sb_cons (pc2 := 1) (sx_aload_n (show decode cX12_refused 0 = .ok (.aload_n 0, 1) by decide +kernel) rfl) rfl
    (sb_cons (pc2 := 3) (sx_iload (show decode cX12_refused 1 = .ok (.iload 4, 2) by decide +kernel)) rfl
    (sb_cons (pc2 := 6) (sx_cV (Y' := YX12_rowOf) (q := (RX12, TX12, 69)) rfl (show decode cX12_refused 3 = .ok (.invokevirtual 237, 3) by decide +kernel) rfl rfl (px_w4 wd_799 wd_800 wd_801 wd_719) wd_798 ⟨by decide, by decide, by decide +kernel⟩ (by decide)) rfl
    (sb_cons (pc2 := 8) (sx_istore (show decode cX12_refused 6 = .ok (.istore 6, 2) by decide +kernel)) rfl
    (sb_cons (pc2 := 10) (sx_iload (show decode cX12_refused 8 = .ok (.iload 6, 2) by decide +kernel)) rfl
    (sb_cons (pc2 := 11) (sx_iconst (show decode cX12_refused 10 = .ok (.iconst (-1), 1) by decide +kernel) (by decide)) rfl
    (sb_cons (pc2 := 14) (sx_icmp_ne (show decode cX12_refused 11 = .ok (.if_icmp .ne 5, 3) by decide +kernel) (by decide)) rfl
    (sb_cons (pc2 := 15) (sx_iconst (show decode cX12_refused 14 = .ok (.iconst 1, 1) by decide +kernel) (by decide)) rfl
    (sb_cons (pc2 := 16) (sx_reti (show decode cX12_refused 15 = .ok (.ireturn, 1) by decide +kernel) rfl) rfl sb_nil)))))))))
  (ms_cons
  (sb_cons (pc2 := 18) (sx_iload (show decode cX12_refused 16 = .ok (.iload 5, 2) by decide +kernel)) rfl
    (sb_cons (pc2 := 19) (sx_aload_n (show decode cX12_refused 18 = .ok (.aload_n 0, 1) by decide +kernel) rfl) rfl
    (sb_cons (pc2 := 22) (sx_getf (show decode cX12_refused 19 = .ok (.getfield 75, 3) by decide +kernel) rfl iX12 (by decide) wd_692) rfl
    (sb_cons (pc2 := 24) (sx_iload (show decode cX12_refused 22 = .ok (.iload 6, 2) by decide +kernel)) rfl
    (sb_cons (pc2 := 25) (sx_iald (show decode cX12_refused 24 = .ok (.iaload, 1) by decide +kernel)) rfl
    (sb_cons (pc2 := 28) (sx_icmp_le (show decode cX12_refused 25 = .ok (.if_icmp .le 7, 3) by decide +kernel) (by decide)) rfl
    (sb_cons (pc2 := 29) (sx_iconst (show decode cX12_refused 28 = .ok (.iconst 2, 1) by decide +kernel) (by decide)) rfl
    (sb_cons (pc2 := 32) (px_snd_goto (show decode cX12_refused 29 = .ok (.goto 14, 3) by decide +kernel) (by decide)) rfl sb_nil))))))))
  (ms_cons
  (sb_cons (pc2 := 33) (sx_aload_n (show decode cX12_refused 32 = .ok (.aload_n 0, 1) by decide +kernel) rfl) rfl
    (sb_cons (pc2 := 34) (sx_iload_n (show decode cX12_refused 33 = .ok (.iload_n 1, 1) by decide +kernel) rfl) rfl
    (sb_cons (pc2 := 35) (sx_iload_n (show decode cX12_refused 34 = .ok (.iload_n 2, 1) by decide +kernel) rfl) rfl
    (sb_cons (pc2 := 36) (sx_iload_n (show decode cX12_refused 35 = .ok (.iload_n 3, 1) by decide +kernel) rfl) rfl
    (sb_cons (pc2 := 38) (sx_iload (show decode cX12_refused 36 = .ok (.iload 4, 2) by decide +kernel)) rfl
    (sb_cons (pc2 := 40) (sx_iload (show decode cX12_refused 38 = .ok (.iload 5, 2) by decide +kernel)) rfl
    (sb_cons (pc2 := 43) (sx_cV (Y' := YX12_clashes) (q := (RX12, TX12, 69)) rfl (show decode cX12_refused 40 = .ok (.invokevirtual 243, 3) by decide +kernel) rfl rfl (px_w4 wd_804 wd_805 wd_806 wd_719) wd_803 ⟨by decide, by decide, by decide +kernel⟩ (by decide)) rfl sb_nil)))))))
  (ms_cons
  (sb_cons (pc2 := 44) (sx_reti (show decode cX12_refused 43 = .ok (.ireturn, 1) by decide +kernel) rfl) rfl sb_nil)
  ms_nil))))
def kX12_clashes (X : px_X) : px_B := [(0, [], [px_push (.int 0), px_istore 6, px_push (.int 0), px_istore 7], 6),
  (6, [true, true, true, true, true, true, true, true, false, false], [px_iload 7, px_aload 0, px_getf 12 30, px_if2 (fun x y => decide (y ≤ x)) 130, px_aload 0, px_iload 7, px_iload 1, px_iload 2, px_cV X 199 4 12, px_if1 (fun x => decide (x = 0)) 124, px_aload 0, px_getf 12 33, px_iload 7, px_iald 0, px_istore 8, px_aload 0, px_getf 12 33, px_iload 7, px_iald 0, px_aload 0, px_getf 12 35, px_iload 7, px_iald 0, (px_i2 fun x y => x + y), px_istore 9, px_iload 3, px_iload 9, px_if2 (fun x y => decide (y < x)) 69, px_iload 8, px_iload 3, px_iload 5, (px_i2 fun x y => x + y), px_if2 (fun x y => decide (y < x)) 69, px_push (.int 3), px_reti], 69),
  (69, [true, true, true, true, true, true, true, true, true, true], [px_iload 6, px_if1 (fun x => decide (¬ x = 0)) 117, px_iload 8, px_iload 3, px_if2 (fun x y => decide (y ≤ x)) 101, px_iload 3, px_iload 9, (px_i2 fun x y => x - y), px_aload 0, px_aload 0, px_getf 12 34, px_iload 7, px_iald 0, px_cV X 198 2 12, px_if2 (fun x y => decide (y ≤ x)) 121, px_goto 117], 101),
  (101, [true, true, true, true, true, true, false, true, true, false], [px_iload 8, px_iload 3, (px_i2 fun x y => x - y), px_iload 5, (px_i2 fun x y => x - y), px_aload 0, px_iload 4, px_cV X 198 2 12, px_if2 (fun x y => decide (y ≤ x)) 121], 117),
  (117, [true, true, true, true, true, true, false, true, false, false], [px_push (.int 1), px_goto 122], 121),
  (121, [true, true, true, true, true, true, false, true, false, false], [px_push (.int 0)], 122),
  (122, [true, true, true, true, true, true, false, true, false, false], [px_istore 6], 124),
  (124, [true, true, true, true, true, true, true, true, false, false], [px_iinc 7 1, px_goto 6], 130),
  (130, [true, true, true, true, false, true, true, false, false, false], [px_iload 6, px_if1 (fun x => decide (x = 0)) 137, px_push (.int 4), px_reti], 137),
  (137, [true, true, true, true, false, true, false, false, false, false], [px_aload 0, px_iload 1, px_iload 3, px_push (.int 1440), (px_i2d fun x y => x / y), px_cV X 200 3 12, px_iload 5, (px_i2 fun x y => x + y), px_push (.int 120), px_if2 (fun x y => decide (y < x)) 173, px_aload 0, px_iload 2, px_iload 3, px_push (.int 1440), (px_i2d fun x y => x / y), px_cV X 200 3 12, px_iload 5, (px_i2 fun x y => x + y), px_push (.int 120), px_if2 (fun x y => decide (x ≤ y)) 177], 173),
  (173, [false, false, false, false, false, false, false, false, false, false], [px_push (.int 5), px_goto 178], 177),
  (177, [false, false, false, false, false, false, false, false, false, false], [px_push (.int 0)], 178),
  (178, [false, false, false, false, false, false, false, false, false, false], [px_reti], 179)]
set_option maxRecDepth 100000 in
set_option maxHeartbeats 8000000 in
theorem sX12_clashes (d : Nat) (X : px_X) : px_MS d X YX12_clashes (kX12_clashes X) :=
  (ms_cons
  (sb_cons (pc2 := 1) (sx_iconst (show decode cX12_clashes 0 = .ok (.iconst 0, 1) by decide +kernel) (by decide)) rfl
    (sb_cons (pc2 := 3) (sx_istore (show decode cX12_clashes 1 = .ok (.istore 6, 2) by decide +kernel)) rfl
    (sb_cons (pc2 := 4) (sx_iconst (show decode cX12_clashes 3 = .ok (.iconst 0, 1) by decide +kernel) (by decide)) rfl
    (sb_cons (pc2 := 6) (sx_istore (show decode cX12_clashes 4 = .ok (.istore 7, 2) by decide +kernel)) rfl sb_nil))))
  (ms_cons
  (sb_cons (pc2 := 8) (sx_iload (show decode cX12_clashes 6 = .ok (.iload 7, 2) by decide +kernel)) rfl
    (sb_cons (pc2 := 9) (sx_aload_n (show decode cX12_clashes 8 = .ok (.aload_n 0, 1) by decide +kernel) rfl) rfl
    (sb_cons (pc2 := 12) (sx_getf (show decode cX12_clashes 9 = .ok (.getfield 240, 3) by decide +kernel) rfl iX12 (by decide) wd_802) rfl
    (sb_cons (pc2 := 15) (sx_icmp_ge (show decode cX12_clashes 12 = .ok (.if_icmp .ge 118, 3) by decide +kernel) (by decide)) rfl
    (sb_cons (pc2 := 16) (sx_aload_n (show decode cX12_clashes 15 = .ok (.aload_n 0, 1) by decide +kernel) rfl) rfl
    (sb_cons (pc2 := 18) (sx_iload (show decode cX12_clashes 16 = .ok (.iload 7, 2) by decide +kernel)) rfl
    (sb_cons (pc2 := 19) (sx_iload_n (show decode cX12_clashes 18 = .ok (.iload_n 1, 1) by decide +kernel) rfl) rfl
    (sb_cons (pc2 := 20) (sx_iload_n (show decode cX12_clashes 19 = .ok (.iload_n 2, 1) by decide +kernel) rfl) rfl
    (sb_cons (pc2 := 23) (sx_cV (Y' := YX12_isOf) (q := (RX12, TX12, 69)) rfl (show decode cX12_clashes 20 = .ok (.invokevirtual 247, 3) by decide +kernel) rfl rfl (px_w4 wd_808 wd_809 wd_810 wd_719) wd_807 ⟨by decide, by decide, by decide +kernel⟩ (by decide)) rfl
    (sb_cons (pc2 := 26) (sx_if_eq (show decode cX12_clashes 23 = .ok (.ifCond .eq 101, 3) by decide +kernel) (by decide)) rfl
    (sb_cons (pc2 := 27) (sx_aload_n (show decode cX12_clashes 26 = .ok (.aload_n 0, 1) by decide +kernel) rfl) rfl
    (sb_cons (pc2 := 30) (sx_getf (show decode cX12_clashes 27 = .ok (.getfield 87, 3) by decide +kernel) rfl iX12 (by decide) wd_696) rfl
    (sb_cons (pc2 := 32) (sx_iload (show decode cX12_clashes 30 = .ok (.iload 7, 2) by decide +kernel)) rfl
    (sb_cons (pc2 := 33) (sx_iald (show decode cX12_clashes 32 = .ok (.iaload, 1) by decide +kernel)) rfl
    (sb_cons (pc2 := 35) (sx_istore (show decode cX12_clashes 33 = .ok (.istore 8, 2) by decide +kernel)) rfl
    (sb_cons (pc2 := 36) (sx_aload_n (show decode cX12_clashes 35 = .ok (.aload_n 0, 1) by decide +kernel) rfl) rfl
    (sb_cons (pc2 := 39) (sx_getf (show decode cX12_clashes 36 = .ok (.getfield 87, 3) by decide +kernel) rfl iX12 (by decide) wd_696) rfl
    (sb_cons (pc2 := 41) (sx_iload (show decode cX12_clashes 39 = .ok (.iload 7, 2) by decide +kernel)) rfl
    (sb_cons (pc2 := 42) (sx_iald (show decode cX12_clashes 41 = .ok (.iaload, 1) by decide +kernel)) rfl
    (sb_cons (pc2 := 43) (sx_aload_n (show decode cX12_clashes 42 = .ok (.aload_n 0, 1) by decide +kernel) rfl) rfl
    (sb_cons (pc2 := 46) (sx_getf (show decode cX12_clashes 43 = .ok (.getfield 93, 3) by decide +kernel) rfl iX12 (by decide) wd_698) rfl
    (sb_cons (pc2 := 48) (sx_iload (show decode cX12_clashes 46 = .ok (.iload 7, 2) by decide +kernel)) rfl
    (sb_cons (pc2 := 49) (sx_iald (show decode cX12_clashes 48 = .ok (.iaload, 1) by decide +kernel)) rfl
    (sb_cons (pc2 := 50) (sx_iadd (show decode cX12_clashes 49 = .ok (.iadd, 1) by decide +kernel)) rfl
    (sb_cons (pc2 := 52) (sx_istore (show decode cX12_clashes 50 = .ok (.istore 9, 2) by decide +kernel)) rfl
    (sb_cons (pc2 := 53) (sx_iload_n (show decode cX12_clashes 52 = .ok (.iload_n 3, 1) by decide +kernel) rfl) rfl
    (sb_cons (pc2 := 55) (sx_iload (show decode cX12_clashes 53 = .ok (.iload 9, 2) by decide +kernel)) rfl
    (sb_cons (pc2 := 58) (sx_icmp_gt (show decode cX12_clashes 55 = .ok (.if_icmp .gt 14, 3) by decide +kernel) (by decide)) rfl
    (sb_cons (pc2 := 60) (sx_iload (show decode cX12_clashes 58 = .ok (.iload 8, 2) by decide +kernel)) rfl
    (sb_cons (pc2 := 61) (sx_iload_n (show decode cX12_clashes 60 = .ok (.iload_n 3, 1) by decide +kernel) rfl) rfl
    (sb_cons (pc2 := 63) (sx_iload (show decode cX12_clashes 61 = .ok (.iload 5, 2) by decide +kernel)) rfl
    (sb_cons (pc2 := 64) (sx_iadd (show decode cX12_clashes 63 = .ok (.iadd, 1) by decide +kernel)) rfl
    (sb_cons (pc2 := 67) (sx_icmp_gt (show decode cX12_clashes 64 = .ok (.if_icmp .gt 5, 3) by decide +kernel) (by decide)) rfl
    (sb_cons (pc2 := 68) (sx_iconst (show decode cX12_clashes 67 = .ok (.iconst 3, 1) by decide +kernel) (by decide)) rfl
    (sb_cons (pc2 := 69) (sx_reti (show decode cX12_clashes 68 = .ok (.ireturn, 1) by decide +kernel) rfl) rfl sb_nil)))))))))))))))))))))))))))))))))))
  (ms_cons
  (sb_cons (pc2 := 71) (sx_iload (show decode cX12_clashes 69 = .ok (.iload 6, 2) by decide +kernel)) rfl
    (sb_cons (pc2 := 74) (sx_if_ne (show decode cX12_clashes 71 = .ok (.ifCond .ne 46, 3) by decide +kernel) (by decide)) rfl
    (sb_cons (pc2 := 76) (sx_iload (show decode cX12_clashes 74 = .ok (.iload 8, 2) by decide +kernel)) rfl
    (sb_cons (pc2 := 77) (sx_iload_n (show decode cX12_clashes 76 = .ok (.iload_n 3, 1) by decide +kernel) rfl) rfl
    (sb_cons (pc2 := 80) (sx_icmp_ge (show decode cX12_clashes 77 = .ok (.if_icmp .ge 24, 3) by decide +kernel) (by decide)) rfl
    (sb_cons (pc2 := 81) (sx_iload_n (show decode cX12_clashes 80 = .ok (.iload_n 3, 1) by decide +kernel) rfl) rfl
    (sb_cons (pc2 := 83) (sx_iload (show decode cX12_clashes 81 = .ok (.iload 9, 2) by decide +kernel)) rfl
    (sb_cons (pc2 := 84) (sx_isub (show decode cX12_clashes 83 = .ok (.isub, 1) by decide +kernel)) rfl
    (sb_cons (pc2 := 85) (sx_aload_n (show decode cX12_clashes 84 = .ok (.aload_n 0, 1) by decide +kernel) rfl) rfl
    (sb_cons (pc2 := 86) (sx_aload_n (show decode cX12_clashes 85 = .ok (.aload_n 0, 1) by decide +kernel) rfl) rfl
    (sb_cons (pc2 := 89) (sx_getf (show decode cX12_clashes 86 = .ok (.getfield 90, 3) by decide +kernel) rfl iX12 (by decide) wd_697) rfl
    (sb_cons (pc2 := 91) (sx_iload (show decode cX12_clashes 89 = .ok (.iload 7, 2) by decide +kernel)) rfl
    (sb_cons (pc2 := 92) (sx_iald (show decode cX12_clashes 91 = .ok (.iaload, 1) by decide +kernel)) rfl
    (sb_cons (pc2 := 95) (sx_cV (Y' := YX12_restOf) (q := (RX12, TX12, 69)) rfl (show decode cX12_clashes 92 = .ok (.invokevirtual 250, 3) by decide +kernel) rfl rfl (px_w4 wd_812 wd_813 wd_814 wd_719) wd_811 ⟨by decide, by decide, by decide +kernel⟩ (by decide)) rfl
    (sb_cons (pc2 := 98) (sx_icmp_ge (show decode cX12_clashes 95 = .ok (.if_icmp .ge 26, 3) by decide +kernel) (by decide)) rfl
    (sb_cons (pc2 := 101) (px_snd_goto (show decode cX12_clashes 98 = .ok (.goto 19, 3) by decide +kernel) (by decide)) rfl sb_nil))))))))))))))))
  (ms_cons
  (sb_cons (pc2 := 103) (sx_iload (show decode cX12_clashes 101 = .ok (.iload 8, 2) by decide +kernel)) rfl
    (sb_cons (pc2 := 104) (sx_iload_n (show decode cX12_clashes 103 = .ok (.iload_n 3, 1) by decide +kernel) rfl) rfl
    (sb_cons (pc2 := 105) (sx_isub (show decode cX12_clashes 104 = .ok (.isub, 1) by decide +kernel)) rfl
    (sb_cons (pc2 := 107) (sx_iload (show decode cX12_clashes 105 = .ok (.iload 5, 2) by decide +kernel)) rfl
    (sb_cons (pc2 := 108) (sx_isub (show decode cX12_clashes 107 = .ok (.isub, 1) by decide +kernel)) rfl
    (sb_cons (pc2 := 109) (sx_aload_n (show decode cX12_clashes 108 = .ok (.aload_n 0, 1) by decide +kernel) rfl) rfl
    (sb_cons (pc2 := 111) (sx_iload (show decode cX12_clashes 109 = .ok (.iload 4, 2) by decide +kernel)) rfl
    (sb_cons (pc2 := 114) (sx_cV (Y' := YX12_restOf) (q := (RX12, TX12, 69)) rfl (show decode cX12_clashes 111 = .ok (.invokevirtual 250, 3) by decide +kernel) rfl rfl (px_w4 wd_812 wd_813 wd_814 wd_719) wd_811 ⟨by decide, by decide, by decide +kernel⟩ (by decide)) rfl
    (sb_cons (pc2 := 117) (sx_icmp_ge (show decode cX12_clashes 114 = .ok (.if_icmp .ge 7, 3) by decide +kernel) (by decide)) rfl sb_nil)))))))))
  (ms_cons
  (sb_cons (pc2 := 118) (sx_iconst (show decode cX12_clashes 117 = .ok (.iconst 1, 1) by decide +kernel) (by decide)) rfl
    (sb_cons (pc2 := 121) (px_snd_goto (show decode cX12_clashes 118 = .ok (.goto 4, 3) by decide +kernel) (by decide)) rfl sb_nil))
  (ms_cons
  (sb_cons (pc2 := 122) (sx_iconst (show decode cX12_clashes 121 = .ok (.iconst 0, 1) by decide +kernel) (by decide)) rfl sb_nil)
  (ms_cons
  (sb_cons (pc2 := 124) (sx_istore (show decode cX12_clashes 122 = .ok (.istore 6, 2) by decide +kernel)) rfl sb_nil)
  (ms_cons
  (sb_cons (pc2 := 127) (sx_iinc (show decode cX12_clashes 124 = .ok (.iinc 7 1, 3) by decide +kernel) (by decide)) rfl
    (sb_cons (pc2 := 130) (px_snd_goto (show decode cX12_clashes 127 = .ok (.goto (-121), 3) by decide +kernel) (by decide)) rfl sb_nil))
  (ms_cons
  (sb_cons (pc2 := 132) (sx_iload (show decode cX12_clashes 130 = .ok (.iload 6, 2) by decide +kernel)) rfl
    (sb_cons (pc2 := 135) (sx_if_eq (show decode cX12_clashes 132 = .ok (.ifCond .eq 5, 3) by decide +kernel) (by decide)) rfl
    (sb_cons (pc2 := 136) (sx_iconst (show decode cX12_clashes 135 = .ok (.iconst 4, 1) by decide +kernel) (by decide)) rfl
    (sb_cons (pc2 := 137) (sx_reti (show decode cX12_clashes 136 = .ok (.ireturn, 1) by decide +kernel) rfl) rfl sb_nil))))
  (ms_cons
  (sb_cons (pc2 := 138) (sx_aload_n (show decode cX12_clashes 137 = .ok (.aload_n 0, 1) by decide +kernel) rfl) rfl
    (sb_cons (pc2 := 139) (sx_iload_n (show decode cX12_clashes 138 = .ok (.iload_n 1, 1) by decide +kernel) rfl) rfl
    (sb_cons (pc2 := 140) (sx_iload_n (show decode cX12_clashes 139 = .ok (.iload_n 3, 1) by decide +kernel) rfl) rfl
    (sb_cons (pc2 := 143) (sx_sipush (show decode cX12_clashes 140 = .ok (.sipush 1440, 3) by decide +kernel) (by decide)) rfl
    (sb_cons (pc2 := 144) (sx_idiv (show decode cX12_clashes 143 = .ok (.idiv, 1) by decide +kernel)) rfl
    (sb_cons (pc2 := 147) (sx_cV (Y' := YX12_minutesOn) (q := (RX12, TX12, 69)) rfl (show decode cX12_clashes 144 = .ok (.invokevirtual 253, 3) by decide +kernel) rfl rfl (px_w4 wd_816 wd_817 wd_818 wd_719) wd_815 ⟨by decide, by decide, by decide +kernel⟩ (by decide)) rfl
    (sb_cons (pc2 := 149) (sx_iload (show decode cX12_clashes 147 = .ok (.iload 5, 2) by decide +kernel)) rfl
    (sb_cons (pc2 := 150) (sx_iadd (show decode cX12_clashes 149 = .ok (.iadd, 1) by decide +kernel)) rfl
    (sb_cons (pc2 := 152) (sx_bipush (show decode cX12_clashes 150 = .ok (.bipush 120, 2) by decide +kernel) (by decide)) rfl
    (sb_cons (pc2 := 155) (sx_icmp_gt (show decode cX12_clashes 152 = .ok (.if_icmp .gt 21, 3) by decide +kernel) (by decide)) rfl
    (sb_cons (pc2 := 156) (sx_aload_n (show decode cX12_clashes 155 = .ok (.aload_n 0, 1) by decide +kernel) rfl) rfl
    (sb_cons (pc2 := 157) (sx_iload_n (show decode cX12_clashes 156 = .ok (.iload_n 2, 1) by decide +kernel) rfl) rfl
    (sb_cons (pc2 := 158) (sx_iload_n (show decode cX12_clashes 157 = .ok (.iload_n 3, 1) by decide +kernel) rfl) rfl
    (sb_cons (pc2 := 161) (sx_sipush (show decode cX12_clashes 158 = .ok (.sipush 1440, 3) by decide +kernel) (by decide)) rfl
    (sb_cons (pc2 := 162) (sx_idiv (show decode cX12_clashes 161 = .ok (.idiv, 1) by decide +kernel)) rfl
    (sb_cons (pc2 := 165) (sx_cV (Y' := YX12_minutesOn) (q := (RX12, TX12, 69)) rfl (show decode cX12_clashes 162 = .ok (.invokevirtual 253, 3) by decide +kernel) rfl rfl (px_w4 wd_816 wd_817 wd_818 wd_719) wd_815 ⟨by decide, by decide, by decide +kernel⟩ (by decide)) rfl
    (sb_cons (pc2 := 167) (sx_iload (show decode cX12_clashes 165 = .ok (.iload 5, 2) by decide +kernel)) rfl
    (sb_cons (pc2 := 168) (sx_iadd (show decode cX12_clashes 167 = .ok (.iadd, 1) by decide +kernel)) rfl
    (sb_cons (pc2 := 170) (sx_bipush (show decode cX12_clashes 168 = .ok (.bipush 120, 2) by decide +kernel) (by decide)) rfl
    (sb_cons (pc2 := 173) (sx_icmp_le (show decode cX12_clashes 170 = .ok (.if_icmp .le 7, 3) by decide +kernel) (by decide)) rfl sb_nil))))))))))))))))))))
  (ms_cons
  (sb_cons (pc2 := 174) (sx_iconst (show decode cX12_clashes 173 = .ok (.iconst 5, 1) by decide +kernel) (by decide)) rfl
    (sb_cons (pc2 := 177) (px_snd_goto (show decode cX12_clashes 174 = .ok (.goto 4, 3) by decide +kernel) (by decide)) rfl sb_nil))
  (ms_cons
  (sb_cons (pc2 := 178) (sx_iconst (show decode cX12_clashes 177 = .ok (.iconst 0, 1) by decide +kernel) (by decide)) rfl sb_nil)
  (ms_cons
  (sb_cons (pc2 := 179) (sx_reti (show decode cX12_clashes 178 = .ok (.ireturn, 1) by decide +kernel) rfl) rfl sb_nil)
  ms_nil)))))))))))))
def kX12_isDive (X : px_X) : px_B := [(0, [], [px_iload 1, px_push (.int 0), px_aload 0, px_getf 12 25, px_push (.int 1), (px_i2 fun x y => x - y), px_cS X 165 3, px_if1 (fun x => decide (x = 0)) 37, px_iload 2, px_push (.int 0), px_aload 0, px_getf 12 25, px_push (.int 1), (px_i2 fun x y => x - y), px_cS X 165 3, px_if1 (fun x => decide (x = 0)) 37, px_iload 1, px_iload 2, px_if2 (fun x y => decide (x = y)) 37, px_push (.int 1), px_goto 38], 37),
  (37, [false, false, false, true, true, true, false], [px_push (.int 0)], 38),
  (38, [false, false, false, true, true, true, false], [px_istore 6, px_iload 6, px_if1 (fun x => decide (x = 0)) 83, px_iload 3, px_push (.int 0), px_push (.int 1439999), px_cS X 165 3, px_if1 (fun x => decide (x = 0)) 83, px_iload 4, px_push (.int 1), px_push (.int 90), px_cS X 165 3, px_if1 (fun x => decide (x = 0)) 83, px_iload 5, px_push (.int 1), px_push (.int 200), px_cS X 165 3, px_if1 (fun x => decide (x = 0)) 83, px_push (.int 1), px_goto 84], 83),
  (83, [false, false, false, false, false, false, false], [px_push (.int 0)], 84),
  (84, [false, false, false, false, false, false, false], [px_retz], 85)]
set_option maxRecDepth 100000 in
set_option maxHeartbeats 8000000 in
theorem sX12_isDive (d : Nat) (X : px_X) : px_MS d X YX12_isDive (kX12_isDive X) :=
  (ms_cons
  (sb_cons (pc2 := 1) (sx_iload_n (show decode cX12_isDive 0 = .ok (.iload_n 1, 1) by decide +kernel) rfl) rfl
    (sb_cons (pc2 := 2) (sx_iconst (show decode cX12_isDive 1 = .ok (.iconst 0, 1) by decide +kernel) (by decide)) rfl
    (sb_cons (pc2 := 3) (sx_aload_n (show decode cX12_isDive 2 = .ok (.aload_n 0, 1) by decide +kernel) rfl) rfl
    (sb_cons (pc2 := 6) (sx_getf (show decode cX12_isDive 3 = .ok (.getfield 231, 3) by decide +kernel) rfl iX12 (by decide) wd_796) rfl
    (sb_cons (pc2 := 7) (sx_iconst (show decode cX12_isDive 6 = .ok (.iconst 1, 1) by decide +kernel) (by decide)) rfl
    (sb_cons (pc2 := 8) (sx_isub (show decode cX12_isDive 7 = .ok (.isub, 1) by decide +kernel)) rfl
    (sb_cons (pc2 := 11) (sx_cS (Y' := YX12_in) rfl (show decode cX12_isDive 8 = .ok (.invokestatic 147, 3) by decide +kernel) rfl (px_w3 wd_717 wd_718 wd_719) wd_716 ⟨by decide, by decide, by decide +kernel⟩ (by decide)) rfl
    (sb_cons (pc2 := 14) (sx_if_eq (show decode cX12_isDive 11 = .ok (.ifCond .eq 26, 3) by decide +kernel) (by decide)) rfl
    (sb_cons (pc2 := 15) (sx_iload_n (show decode cX12_isDive 14 = .ok (.iload_n 2, 1) by decide +kernel) rfl) rfl
    (sb_cons (pc2 := 16) (sx_iconst (show decode cX12_isDive 15 = .ok (.iconst 0, 1) by decide +kernel) (by decide)) rfl
    (sb_cons (pc2 := 17) (sx_aload_n (show decode cX12_isDive 16 = .ok (.aload_n 0, 1) by decide +kernel) rfl) rfl
    (sb_cons (pc2 := 20) (sx_getf (show decode cX12_isDive 17 = .ok (.getfield 231, 3) by decide +kernel) rfl iX12 (by decide) wd_796) rfl
    (sb_cons (pc2 := 21) (sx_iconst (show decode cX12_isDive 20 = .ok (.iconst 1, 1) by decide +kernel) (by decide)) rfl
    (sb_cons (pc2 := 22) (sx_isub (show decode cX12_isDive 21 = .ok (.isub, 1) by decide +kernel)) rfl
    (sb_cons (pc2 := 25) (sx_cS (Y' := YX12_in) rfl (show decode cX12_isDive 22 = .ok (.invokestatic 147, 3) by decide +kernel) rfl (px_w3 wd_717 wd_718 wd_719) wd_716 ⟨by decide, by decide, by decide +kernel⟩ (by decide)) rfl
    (sb_cons (pc2 := 28) (sx_if_eq (show decode cX12_isDive 25 = .ok (.ifCond .eq 12, 3) by decide +kernel) (by decide)) rfl
    (sb_cons (pc2 := 29) (sx_iload_n (show decode cX12_isDive 28 = .ok (.iload_n 1, 1) by decide +kernel) rfl) rfl
    (sb_cons (pc2 := 30) (sx_iload_n (show decode cX12_isDive 29 = .ok (.iload_n 2, 1) by decide +kernel) rfl) rfl
    (sb_cons (pc2 := 33) (sx_icmp_eq (show decode cX12_isDive 30 = .ok (.if_icmp .eq 7, 3) by decide +kernel) (by decide)) rfl
    (sb_cons (pc2 := 34) (sx_iconst (show decode cX12_isDive 33 = .ok (.iconst 1, 1) by decide +kernel) (by decide)) rfl
    (sb_cons (pc2 := 37) (px_snd_goto (show decode cX12_isDive 34 = .ok (.goto 4, 3) by decide +kernel) (by decide)) rfl sb_nil)))))))))))))))))))))
  (ms_cons
  (sb_cons (pc2 := 38) (sx_iconst (show decode cX12_isDive 37 = .ok (.iconst 0, 1) by decide +kernel) (by decide)) rfl sb_nil)
  (ms_cons
  (sb_cons (pc2 := 40) (sx_istore (show decode cX12_isDive 38 = .ok (.istore 6, 2) by decide +kernel)) rfl
    (sb_cons (pc2 := 42) (sx_iload (show decode cX12_isDive 40 = .ok (.iload 6, 2) by decide +kernel)) rfl
    (sb_cons (pc2 := 45) (sx_if_eq (show decode cX12_isDive 42 = .ok (.ifCond .eq 41, 3) by decide +kernel) (by decide)) rfl
    (sb_cons (pc2 := 46) (sx_iload_n (show decode cX12_isDive 45 = .ok (.iload_n 3, 1) by decide +kernel) rfl) rfl
    (sb_cons (pc2 := 47) (sx_iconst (show decode cX12_isDive 46 = .ok (.iconst 0, 1) by decide +kernel) (by decide)) rfl
    (sb_cons (pc2 := 50) (sx_ldcw (show decode cX12_isDive 47 = .ok (.ldc_w 257, 3) by decide +kernel) wd_819) rfl
    (sb_cons (pc2 := 53) (sx_cS (Y' := YX12_in) rfl (show decode cX12_isDive 50 = .ok (.invokestatic 147, 3) by decide +kernel) rfl (px_w3 wd_717 wd_718 wd_719) wd_716 ⟨by decide, by decide, by decide +kernel⟩ (by decide)) rfl
    (sb_cons (pc2 := 56) (sx_if_eq (show decode cX12_isDive 53 = .ok (.ifCond .eq 30, 3) by decide +kernel) (by decide)) rfl
    (sb_cons (pc2 := 58) (sx_iload (show decode cX12_isDive 56 = .ok (.iload 4, 2) by decide +kernel)) rfl
    (sb_cons (pc2 := 59) (sx_iconst (show decode cX12_isDive 58 = .ok (.iconst 1, 1) by decide +kernel) (by decide)) rfl
    (sb_cons (pc2 := 61) (sx_bipush (show decode cX12_isDive 59 = .ok (.bipush 90, 2) by decide +kernel) (by decide)) rfl
    (sb_cons (pc2 := 64) (sx_cS (Y' := YX12_in) rfl (show decode cX12_isDive 61 = .ok (.invokestatic 147, 3) by decide +kernel) rfl (px_w3 wd_717 wd_718 wd_719) wd_716 ⟨by decide, by decide, by decide +kernel⟩ (by decide)) rfl
    (sb_cons (pc2 := 67) (sx_if_eq (show decode cX12_isDive 64 = .ok (.ifCond .eq 19, 3) by decide +kernel) (by decide)) rfl
    (sb_cons (pc2 := 69) (sx_iload (show decode cX12_isDive 67 = .ok (.iload 5, 2) by decide +kernel)) rfl
    (sb_cons (pc2 := 70) (sx_iconst (show decode cX12_isDive 69 = .ok (.iconst 1, 1) by decide +kernel) (by decide)) rfl
    (sb_cons (pc2 := 73) (sx_sipush (show decode cX12_isDive 70 = .ok (.sipush 200, 3) by decide +kernel) (by decide)) rfl
    (sb_cons (pc2 := 76) (sx_cS (Y' := YX12_in) rfl (show decode cX12_isDive 73 = .ok (.invokestatic 147, 3) by decide +kernel) rfl (px_w3 wd_717 wd_718 wd_719) wd_716 ⟨by decide, by decide, by decide +kernel⟩ (by decide)) rfl
    (sb_cons (pc2 := 79) (sx_if_eq (show decode cX12_isDive 76 = .ok (.ifCond .eq 7, 3) by decide +kernel) (by decide)) rfl
    (sb_cons (pc2 := 80) (sx_iconst (show decode cX12_isDive 79 = .ok (.iconst 1, 1) by decide +kernel) (by decide)) rfl
    (sb_cons (pc2 := 83) (px_snd_goto (show decode cX12_isDive 80 = .ok (.goto 4, 3) by decide +kernel) (by decide)) rfl sb_nil))))))))))))))))))))
  (ms_cons
  (sb_cons (pc2 := 84) (sx_iconst (show decode cX12_isDive 83 = .ok (.iconst 0, 1) by decide +kernel) (by decide)) rfl sb_nil)
  (ms_cons
  (sb_cons (pc2 := 85) (sx_retz (show decode cX12_isDive 84 = .ok (.ireturn, 1) by decide +kernel) rfl) rfl sb_nil)
  ms_nil)))))
def kX12_dive (X : px_X) : px_B := [(0, [], [px_aload 0, px_iload 1, px_iload 2, px_iload 3, px_iload 4, px_iload 5, px_cV X 203 6 12, px_if1 (fun x => decide (¬ x = 0)) 17, px_push (.int (-2)), px_reti], 17),
  (17, [true, true, true, true, true, true, false], [px_aload 0, px_iload 1, px_iload 2, px_iload 3, px_iload 4, px_iload 5, px_cV X 201 6 12, px_istore 6, px_iload 6, px_if1 (fun x => decide (x = 0)) 41, px_push (.int (-20)), px_iload 6, (px_i2 fun x y => x - y), px_reti], 41),
  (41, [true, true, true, true, true, true, false], [px_aload 0, px_getf 12 30, px_push (.int 40), px_if2 (fun x y => decide (¬ x = y)) 53, px_push (.int (-4)), px_reti], 53),
  (53, [true, true, true, true, true, true, false], [px_aload 0, px_getf 12 31, px_aload 0, px_getf 12 30, px_iload 1, px_iast 0, px_aload 0, px_getf 12 32, px_aload 0, px_getf 12 30, px_iload 2, px_iast 0, px_aload 0, px_getf 12 33, px_aload 0, px_getf 12 30, px_iload 3, px_iast 0, px_aload 0, px_getf 12 34, px_aload 0, px_getf 12 30, px_iload 4, px_iast 0, px_aload 0, px_getf 12 35, px_aload 0, px_getf 12 30, px_iload 5, px_iast 0, px_aload 0, px_dup, px_getf 12 30, px_push (.int 1), (px_i2 fun x y => x + y), px_puti 12 30, px_aload 0, px_getf 12 30, px_push (.int 1), (px_i2 fun x y => x - y), px_reti], 122)]
set_option maxRecDepth 100000 in
set_option maxHeartbeats 8000000 in
theorem sX12_dive (d : Nat) (X : px_X) : px_MS d X YX12_dive (kX12_dive X) :=
  (ms_cons
  (sb_cons (pc2 := 1) (sx_aload_n (show decode cX12_dive 0 = .ok (.aload_n 0, 1) by decide +kernel) rfl) rfl
    (sb_cons (pc2 := 2) (sx_iload_n (show decode cX12_dive 1 = .ok (.iload_n 1, 1) by decide +kernel) rfl) rfl
    (sb_cons (pc2 := 3) (sx_iload_n (show decode cX12_dive 2 = .ok (.iload_n 2, 1) by decide +kernel) rfl) rfl
    (sb_cons (pc2 := 4) (sx_iload_n (show decode cX12_dive 3 = .ok (.iload_n 3, 1) by decide +kernel) rfl) rfl
    (sb_cons (pc2 := 6) (sx_iload (show decode cX12_dive 4 = .ok (.iload 4, 2) by decide +kernel)) rfl
    (sb_cons (pc2 := 8) (sx_iload (show decode cX12_dive 6 = .ok (.iload 5, 2) by decide +kernel)) rfl
    (sb_cons (pc2 := 11) (sx_cV (Y' := YX12_isDive) (q := (RX12, TX12, 69)) rfl (show decode cX12_dive 8 = .ok (.invokevirtual 258, 3) by decide +kernel) rfl rfl (px_w4 wd_821 wd_822 wd_823 wd_719) wd_820 ⟨by decide, by decide, by decide +kernel⟩ (by decide)) rfl
    (sb_cons (pc2 := 14) (sx_if_ne (show decode cX12_dive 11 = .ok (.ifCond .ne 6, 3) by decide +kernel) (by decide)) rfl
    (sb_cons (pc2 := 16) (sx_bipush (show decode cX12_dive 14 = .ok (.bipush (-2), 2) by decide +kernel) (by decide)) rfl
    (sb_cons (pc2 := 17) (sx_reti (show decode cX12_dive 16 = .ok (.ireturn, 1) by decide +kernel) rfl) rfl sb_nil))))))))))
  (ms_cons
  (sb_cons (pc2 := 18) (sx_aload_n (show decode cX12_dive 17 = .ok (.aload_n 0, 1) by decide +kernel) rfl) rfl
    (sb_cons (pc2 := 19) (sx_iload_n (show decode cX12_dive 18 = .ok (.iload_n 1, 1) by decide +kernel) rfl) rfl
    (sb_cons (pc2 := 20) (sx_iload_n (show decode cX12_dive 19 = .ok (.iload_n 2, 1) by decide +kernel) rfl) rfl
    (sb_cons (pc2 := 21) (sx_iload_n (show decode cX12_dive 20 = .ok (.iload_n 3, 1) by decide +kernel) rfl) rfl
    (sb_cons (pc2 := 23) (sx_iload (show decode cX12_dive 21 = .ok (.iload 4, 2) by decide +kernel)) rfl
    (sb_cons (pc2 := 25) (sx_iload (show decode cX12_dive 23 = .ok (.iload 5, 2) by decide +kernel)) rfl
    (sb_cons (pc2 := 28) (sx_cV (Y' := YX12_refused) (q := (RX12, TX12, 69)) rfl (show decode cX12_dive 25 = .ok (.invokevirtual 262, 3) by decide +kernel) rfl rfl (px_w4 wd_825 wd_826 wd_827 wd_719) wd_824 ⟨by decide, by decide, by decide +kernel⟩ (by decide)) rfl
    (sb_cons (pc2 := 30) (sx_istore (show decode cX12_dive 28 = .ok (.istore 6, 2) by decide +kernel)) rfl
    (sb_cons (pc2 := 32) (sx_iload (show decode cX12_dive 30 = .ok (.iload 6, 2) by decide +kernel)) rfl
    (sb_cons (pc2 := 35) (sx_if_eq (show decode cX12_dive 32 = .ok (.ifCond .eq 9, 3) by decide +kernel) (by decide)) rfl
    (sb_cons (pc2 := 37) (sx_bipush (show decode cX12_dive 35 = .ok (.bipush (-20), 2) by decide +kernel) (by decide)) rfl
    (sb_cons (pc2 := 39) (sx_iload (show decode cX12_dive 37 = .ok (.iload 6, 2) by decide +kernel)) rfl
    (sb_cons (pc2 := 40) (sx_isub (show decode cX12_dive 39 = .ok (.isub, 1) by decide +kernel)) rfl
    (sb_cons (pc2 := 41) (sx_reti (show decode cX12_dive 40 = .ok (.ireturn, 1) by decide +kernel) rfl) rfl sb_nil))))))))))))))
  (ms_cons
  (sb_cons (pc2 := 42) (sx_aload_n (show decode cX12_dive 41 = .ok (.aload_n 0, 1) by decide +kernel) rfl) rfl
    (sb_cons (pc2 := 45) (sx_getf (show decode cX12_dive 42 = .ok (.getfield 240, 3) by decide +kernel) rfl iX12 (by decide) wd_802) rfl
    (sb_cons (pc2 := 47) (sx_bipush (show decode cX12_dive 45 = .ok (.bipush 40, 2) by decide +kernel) (by decide)) rfl
    (sb_cons (pc2 := 50) (sx_icmp_ne (show decode cX12_dive 47 = .ok (.if_icmp .ne 6, 3) by decide +kernel) (by decide)) rfl
    (sb_cons (pc2 := 52) (sx_bipush (show decode cX12_dive 50 = .ok (.bipush (-4), 2) by decide +kernel) (by decide)) rfl
    (sb_cons (pc2 := 53) (sx_reti (show decode cX12_dive 52 = .ok (.ireturn, 1) by decide +kernel) rfl) rfl sb_nil))))))
  (ms_cons
  (sb_cons (pc2 := 54) (sx_aload_n (show decode cX12_dive 53 = .ok (.aload_n 0, 1) by decide +kernel) rfl) rfl
    (sb_cons (pc2 := 57) (sx_getf (show decode cX12_dive 54 = .ok (.getfield 81, 3) by decide +kernel) rfl iX12 (by decide) wd_694) rfl
    (sb_cons (pc2 := 58) (sx_aload_n (show decode cX12_dive 57 = .ok (.aload_n 0, 1) by decide +kernel) rfl) rfl
    (sb_cons (pc2 := 61) (sx_getf (show decode cX12_dive 58 = .ok (.getfield 240, 3) by decide +kernel) rfl iX12 (by decide) wd_802) rfl
    (sb_cons (pc2 := 62) (sx_iload_n (show decode cX12_dive 61 = .ok (.iload_n 1, 1) by decide +kernel) rfl) rfl
    (sb_cons (pc2 := 63) (sx_iast (show decode cX12_dive 62 = .ok (.iastore, 1) by decide +kernel)) rfl
    (sb_cons (pc2 := 64) (sx_aload_n (show decode cX12_dive 63 = .ok (.aload_n 0, 1) by decide +kernel) rfl) rfl
    (sb_cons (pc2 := 67) (sx_getf (show decode cX12_dive 64 = .ok (.getfield 84, 3) by decide +kernel) rfl iX12 (by decide) wd_695) rfl
    (sb_cons (pc2 := 68) (sx_aload_n (show decode cX12_dive 67 = .ok (.aload_n 0, 1) by decide +kernel) rfl) rfl
    (sb_cons (pc2 := 71) (sx_getf (show decode cX12_dive 68 = .ok (.getfield 240, 3) by decide +kernel) rfl iX12 (by decide) wd_802) rfl
    (sb_cons (pc2 := 72) (sx_iload_n (show decode cX12_dive 71 = .ok (.iload_n 2, 1) by decide +kernel) rfl) rfl
    (sb_cons (pc2 := 73) (sx_iast (show decode cX12_dive 72 = .ok (.iastore, 1) by decide +kernel)) rfl
    (sb_cons (pc2 := 74) (sx_aload_n (show decode cX12_dive 73 = .ok (.aload_n 0, 1) by decide +kernel) rfl) rfl
    (sb_cons (pc2 := 77) (sx_getf (show decode cX12_dive 74 = .ok (.getfield 87, 3) by decide +kernel) rfl iX12 (by decide) wd_696) rfl
    (sb_cons (pc2 := 78) (sx_aload_n (show decode cX12_dive 77 = .ok (.aload_n 0, 1) by decide +kernel) rfl) rfl
    (sb_cons (pc2 := 81) (sx_getf (show decode cX12_dive 78 = .ok (.getfield 240, 3) by decide +kernel) rfl iX12 (by decide) wd_802) rfl
    (sb_cons (pc2 := 82) (sx_iload_n (show decode cX12_dive 81 = .ok (.iload_n 3, 1) by decide +kernel) rfl) rfl
    (sb_cons (pc2 := 83) (sx_iast (show decode cX12_dive 82 = .ok (.iastore, 1) by decide +kernel)) rfl
    (sb_cons (pc2 := 84) (sx_aload_n (show decode cX12_dive 83 = .ok (.aload_n 0, 1) by decide +kernel) rfl) rfl
    (sb_cons (pc2 := 87) (sx_getf (show decode cX12_dive 84 = .ok (.getfield 90, 3) by decide +kernel) rfl iX12 (by decide) wd_697) rfl
    (sb_cons (pc2 := 88) (sx_aload_n (show decode cX12_dive 87 = .ok (.aload_n 0, 1) by decide +kernel) rfl) rfl
    (sb_cons (pc2 := 91) (sx_getf (show decode cX12_dive 88 = .ok (.getfield 240, 3) by decide +kernel) rfl iX12 (by decide) wd_802) rfl
    (sb_cons (pc2 := 93) (sx_iload (show decode cX12_dive 91 = .ok (.iload 4, 2) by decide +kernel)) rfl
    (sb_cons (pc2 := 94) (sx_iast (show decode cX12_dive 93 = .ok (.iastore, 1) by decide +kernel)) rfl
    (sb_cons (pc2 := 95) (sx_aload_n (show decode cX12_dive 94 = .ok (.aload_n 0, 1) by decide +kernel) rfl) rfl
    (sb_cons (pc2 := 98) (sx_getf (show decode cX12_dive 95 = .ok (.getfield 93, 3) by decide +kernel) rfl iX12 (by decide) wd_698) rfl
    (sb_cons (pc2 := 99) (sx_aload_n (show decode cX12_dive 98 = .ok (.aload_n 0, 1) by decide +kernel) rfl) rfl
    (sb_cons (pc2 := 102) (sx_getf (show decode cX12_dive 99 = .ok (.getfield 240, 3) by decide +kernel) rfl iX12 (by decide) wd_802) rfl
    (sb_cons (pc2 := 104) (sx_iload (show decode cX12_dive 102 = .ok (.iload 5, 2) by decide +kernel)) rfl
    (sb_cons (pc2 := 105) (sx_iast (show decode cX12_dive 104 = .ok (.iastore, 1) by decide +kernel)) rfl
    (sb_cons (pc2 := 106) (sx_aload_n (show decode cX12_dive 105 = .ok (.aload_n 0, 1) by decide +kernel) rfl) rfl
    (sb_cons (pc2 := 107) (sx_dup (show decode cX12_dive 106 = .ok (.dup, 1) by decide +kernel)) rfl
    (sb_cons (pc2 := 110) (sx_getf (show decode cX12_dive 107 = .ok (.getfield 240, 3) by decide +kernel) rfl iX12 (by decide) wd_802) rfl
    (sb_cons (pc2 := 111) (sx_iconst (show decode cX12_dive 110 = .ok (.iconst 1, 1) by decide +kernel) (by decide)) rfl
    (sb_cons (pc2 := 112) (sx_iadd (show decode cX12_dive 111 = .ok (.iadd, 1) by decide +kernel)) rfl
    (sb_cons (pc2 := 115) (sx_puti (show decode cX12_dive 112 = .ok (.putfield 240, 3) by decide +kernel) rfl iX12 tyX12_ok nmX12 (by decide) wd_802 rfl (Or.inl rfl)) rfl
    (sb_cons (pc2 := 116) (sx_aload_n (show decode cX12_dive 115 = .ok (.aload_n 0, 1) by decide +kernel) rfl) rfl
    (sb_cons (pc2 := 119) (sx_getf (show decode cX12_dive 116 = .ok (.getfield 240, 3) by decide +kernel) rfl iX12 (by decide) wd_802) rfl
    (sb_cons (pc2 := 120) (sx_iconst (show decode cX12_dive 119 = .ok (.iconst 1, 1) by decide +kernel) (by decide)) rfl
    (sb_cons (pc2 := 121) (sx_isub (show decode cX12_dive 120 = .ok (.isub, 1) by decide +kernel)) rfl
    (sb_cons (pc2 := 122) (sx_reti (show decode cX12_dive 121 = .ok (.ireturn, 1) by decide +kernel) rfl) rfl sb_nil)))))))))))))))))))))))))))))))))))))))))
  ms_nil))))
def kX12_cancel (X : px_X) : px_B := [(0, [], [px_aload 0, px_getf 12 30, px_if1 (fun x => decide (¬ x = 0)) 10, px_push (.int (-3)), px_reti], 10),
  (10, [true], [px_aload 0, px_dup, px_getf 12 30, px_push (.int 1), (px_i2 fun x y => x - y), px_puti 12 30, px_aload 0, px_getf 12 30, px_reti], 25)]
set_option maxRecDepth 100000 in
set_option maxHeartbeats 8000000 in
theorem sX12_cancel (d : Nat) (X : px_X) : px_MS d X YX12_cancel (kX12_cancel X) :=
  (ms_cons
  (sb_cons (pc2 := 1) (sx_aload_n (show decode cX12_cancel 0 = .ok (.aload_n 0, 1) by decide +kernel) rfl) rfl
    (sb_cons (pc2 := 4) (sx_getf (show decode cX12_cancel 1 = .ok (.getfield 240, 3) by decide +kernel) rfl iX12 (by decide) wd_802) rfl
    (sb_cons (pc2 := 7) (sx_if_ne (show decode cX12_cancel 4 = .ok (.ifCond .ne 6, 3) by decide +kernel) (by decide)) rfl
    (sb_cons (pc2 := 9) (sx_bipush (show decode cX12_cancel 7 = .ok (.bipush (-3), 2) by decide +kernel) (by decide)) rfl
    (sb_cons (pc2 := 10) (sx_reti (show decode cX12_cancel 9 = .ok (.ireturn, 1) by decide +kernel) rfl) rfl sb_nil)))))
  (ms_cons
  (sb_cons (pc2 := 11) (sx_aload_n (show decode cX12_cancel 10 = .ok (.aload_n 0, 1) by decide +kernel) rfl) rfl
    (sb_cons (pc2 := 12) (sx_dup (show decode cX12_cancel 11 = .ok (.dup, 1) by decide +kernel)) rfl
    (sb_cons (pc2 := 15) (sx_getf (show decode cX12_cancel 12 = .ok (.getfield 240, 3) by decide +kernel) rfl iX12 (by decide) wd_802) rfl
    (sb_cons (pc2 := 16) (sx_iconst (show decode cX12_cancel 15 = .ok (.iconst 1, 1) by decide +kernel) (by decide)) rfl
    (sb_cons (pc2 := 17) (sx_isub (show decode cX12_cancel 16 = .ok (.isub, 1) by decide +kernel)) rfl
    (sb_cons (pc2 := 20) (sx_puti (show decode cX12_cancel 17 = .ok (.putfield 240, 3) by decide +kernel) rfl iX12 tyX12_ok nmX12 (by decide) wd_802 rfl (Or.inl rfl)) rfl
    (sb_cons (pc2 := 21) (sx_aload_n (show decode cX12_cancel 20 = .ok (.aload_n 0, 1) by decide +kernel) rfl) rfl
    (sb_cons (pc2 := 24) (sx_getf (show decode cX12_cancel 21 = .ok (.getfield 240, 3) by decide +kernel) rfl iX12 (by decide) wd_802) rfl
    (sb_cons (pc2 := 25) (sx_reti (show decode cX12_cancel 24 = .ok (.ireturn, 1) by decide +kernel) rfl) rfl sb_nil)))))))))
  ms_nil))
def kX12_under (X : px_X) : px_B := [(0, [], [px_iload 1, px_push (.int 0), px_aload 0, px_getf 12 25, px_push (.int 1), (px_i2 fun x y => x - y), px_cS X 165 3, px_if1 (fun x => decide (x = 0)) 30, px_iload 2, px_cS X 168 1, px_if1 (fun x => decide (x = 0)) 30, px_aload 0, px_iload 1, px_iload 2, px_cV X 200 3 12, px_goto 32], 30),
  (30, [false, false, false], [px_push (.int (-2))], 32),
  (32, [false, false, false], [px_reti], 33)]
set_option maxRecDepth 100000 in
set_option maxHeartbeats 8000000 in
theorem sX12_under (d : Nat) (X : px_X) : px_MS d X YX12_under (kX12_under X) :=
  (ms_cons
  (sb_cons (pc2 := 1) (sx_iload_n (show decode cX12_under 0 = .ok (.iload_n 1, 1) by decide +kernel) rfl) rfl
    (sb_cons (pc2 := 2) (sx_iconst (show decode cX12_under 1 = .ok (.iconst 0, 1) by decide +kernel) (by decide)) rfl
    (sb_cons (pc2 := 3) (sx_aload_n (show decode cX12_under 2 = .ok (.aload_n 0, 1) by decide +kernel) rfl) rfl
    (sb_cons (pc2 := 6) (sx_getf (show decode cX12_under 3 = .ok (.getfield 231, 3) by decide +kernel) rfl iX12 (by decide) wd_796) rfl
    (sb_cons (pc2 := 7) (sx_iconst (show decode cX12_under 6 = .ok (.iconst 1, 1) by decide +kernel) (by decide)) rfl
    (sb_cons (pc2 := 8) (sx_isub (show decode cX12_under 7 = .ok (.isub, 1) by decide +kernel)) rfl
    (sb_cons (pc2 := 11) (sx_cS (Y' := YX12_in) rfl (show decode cX12_under 8 = .ok (.invokestatic 147, 3) by decide +kernel) rfl (px_w3 wd_717 wd_718 wd_719) wd_716 ⟨by decide, by decide, by decide +kernel⟩ (by decide)) rfl
    (sb_cons (pc2 := 14) (sx_if_eq (show decode cX12_under 11 = .ok (.ifCond .eq 19, 3) by decide +kernel) (by decide)) rfl
    (sb_cons (pc2 := 15) (sx_iload_n (show decode cX12_under 14 = .ok (.iload_n 2, 1) by decide +kernel) rfl) rfl
    (sb_cons (pc2 := 18) (sx_cS (Y' := YX12_isDay) rfl (show decode cX12_under 15 = .ok (.invokestatic 222, 3) by decide +kernel) rfl (px_w3 wd_786 wd_787 wd_719) wd_785 ⟨by decide, by decide, by decide +kernel⟩ (by decide)) rfl
    (sb_cons (pc2 := 21) (sx_if_eq (show decode cX12_under 18 = .ok (.ifCond .eq 12, 3) by decide +kernel) (by decide)) rfl
    (sb_cons (pc2 := 22) (sx_aload_n (show decode cX12_under 21 = .ok (.aload_n 0, 1) by decide +kernel) rfl) rfl
    (sb_cons (pc2 := 23) (sx_iload_n (show decode cX12_under 22 = .ok (.iload_n 1, 1) by decide +kernel) rfl) rfl
    (sb_cons (pc2 := 24) (sx_iload_n (show decode cX12_under 23 = .ok (.iload_n 2, 1) by decide +kernel) rfl) rfl
    (sb_cons (pc2 := 27) (sx_cV (Y' := YX12_minutesOn) (q := (RX12, TX12, 69)) rfl (show decode cX12_under 24 = .ok (.invokevirtual 253, 3) by decide +kernel) rfl rfl (px_w4 wd_816 wd_817 wd_818 wd_719) wd_815 ⟨by decide, by decide, by decide +kernel⟩ (by decide)) rfl
    (sb_cons (pc2 := 30) (px_snd_goto (show decode cX12_under 27 = .ok (.goto 5, 3) by decide +kernel) (by decide)) rfl sb_nil))))))))))))))))
  (ms_cons
  (sb_cons (pc2 := 32) (sx_bipush (show decode cX12_under 30 = .ok (.bipush (-2), 2) by decide +kernel) (by decide)) rfl sb_nil)
  (ms_cons
  (sb_cons (pc2 := 33) (sx_reti (show decode cX12_under 32 = .ok (.ireturn, 1) by decide +kernel) rfl) rfl sb_nil)
  ms_nil)))
def kX12_soonest (X : px_X) : px_B := [(0, [], [px_aload 0, px_iload 1, px_iload 2, px_iload 3, px_iload 4, px_iload 5, px_cV X 203 6 12, px_if1 (fun x => decide (¬ x = 0)) 17, px_push (.int (-2)), px_reti], 17),
  (17, [true, true, true, true, true, true, false], [px_aload 0, px_iload 1, px_iload 2, px_iload 3, px_iload 4, px_iload 5, px_cV X 201 6 12, px_push (.int 1), px_push (.int 2), px_cS X 165 3, px_if1 (fun x => decide (x = 0)) 38, px_push (.int (-1)), px_reti], 38),
  (38, [true, true, true, true, true, true, false], [px_iload 3, px_istore 6], 41),
  (41, [true, true, true, true, true, true, true], [px_iload 6, px_iload 3, px_push (.int 10080), (px_i2 fun x y => x + y), px_if2 (fun x y => decide (y < x)) 83, px_iload 6, px_push (.int 1440000), px_if2 (fun x y => decide (y ≤ x)) 83, px_aload 0, px_iload 1, px_iload 2, px_iload 6, px_iload 4, px_iload 5, px_cV X 202 6 12, px_if1 (fun x => decide (¬ x = 0)) 77, px_iload 6, px_reti], 77),
  (77, [true, true, true, true, true, true, true], [px_iinc 6 1, px_goto 41], 83),
  (83, [false, false, false, false, false, false, false], [px_push (.int (-1)), px_reti], 85)]
set_option maxRecDepth 100000 in
set_option maxHeartbeats 8000000 in
theorem sX12_soonest (d : Nat) (X : px_X) : px_MS d X YX12_soonest (kX12_soonest X) :=
  (ms_cons
  (sb_cons (pc2 := 1) (sx_aload_n (show decode cX12_soonest 0 = .ok (.aload_n 0, 1) by decide +kernel) rfl) rfl
    (sb_cons (pc2 := 2) (sx_iload_n (show decode cX12_soonest 1 = .ok (.iload_n 1, 1) by decide +kernel) rfl) rfl
    (sb_cons (pc2 := 3) (sx_iload_n (show decode cX12_soonest 2 = .ok (.iload_n 2, 1) by decide +kernel) rfl) rfl
    (sb_cons (pc2 := 4) (sx_iload_n (show decode cX12_soonest 3 = .ok (.iload_n 3, 1) by decide +kernel) rfl) rfl
    (sb_cons (pc2 := 6) (sx_iload (show decode cX12_soonest 4 = .ok (.iload 4, 2) by decide +kernel)) rfl
    (sb_cons (pc2 := 8) (sx_iload (show decode cX12_soonest 6 = .ok (.iload 5, 2) by decide +kernel)) rfl
    (sb_cons (pc2 := 11) (sx_cV (Y' := YX12_isDive) (q := (RX12, TX12, 69)) rfl (show decode cX12_soonest 8 = .ok (.invokevirtual 258, 3) by decide +kernel) rfl rfl (px_w4 wd_821 wd_822 wd_823 wd_719) wd_820 ⟨by decide, by decide, by decide +kernel⟩ (by decide)) rfl
    (sb_cons (pc2 := 14) (sx_if_ne (show decode cX12_soonest 11 = .ok (.ifCond .ne 6, 3) by decide +kernel) (by decide)) rfl
    (sb_cons (pc2 := 16) (sx_bipush (show decode cX12_soonest 14 = .ok (.bipush (-2), 2) by decide +kernel) (by decide)) rfl
    (sb_cons (pc2 := 17) (sx_reti (show decode cX12_soonest 16 = .ok (.ireturn, 1) by decide +kernel) rfl) rfl sb_nil))))))))))
  (ms_cons
  (sb_cons (pc2 := 18) (sx_aload_n (show decode cX12_soonest 17 = .ok (.aload_n 0, 1) by decide +kernel) rfl) rfl
    (sb_cons (pc2 := 19) (sx_iload_n (show decode cX12_soonest 18 = .ok (.iload_n 1, 1) by decide +kernel) rfl) rfl
    (sb_cons (pc2 := 20) (sx_iload_n (show decode cX12_soonest 19 = .ok (.iload_n 2, 1) by decide +kernel) rfl) rfl
    (sb_cons (pc2 := 21) (sx_iload_n (show decode cX12_soonest 20 = .ok (.iload_n 3, 1) by decide +kernel) rfl) rfl
    (sb_cons (pc2 := 23) (sx_iload (show decode cX12_soonest 21 = .ok (.iload 4, 2) by decide +kernel)) rfl
    (sb_cons (pc2 := 25) (sx_iload (show decode cX12_soonest 23 = .ok (.iload 5, 2) by decide +kernel)) rfl
    (sb_cons (pc2 := 28) (sx_cV (Y' := YX12_refused) (q := (RX12, TX12, 69)) rfl (show decode cX12_soonest 25 = .ok (.invokevirtual 262, 3) by decide +kernel) rfl rfl (px_w4 wd_825 wd_826 wd_827 wd_719) wd_824 ⟨by decide, by decide, by decide +kernel⟩ (by decide)) rfl
    (sb_cons (pc2 := 29) (sx_iconst (show decode cX12_soonest 28 = .ok (.iconst 1, 1) by decide +kernel) (by decide)) rfl
    (sb_cons (pc2 := 30) (sx_iconst (show decode cX12_soonest 29 = .ok (.iconst 2, 1) by decide +kernel) (by decide)) rfl
    (sb_cons (pc2 := 33) (sx_cS (Y' := YX12_in) rfl (show decode cX12_soonest 30 = .ok (.invokestatic 147, 3) by decide +kernel) rfl (px_w3 wd_717 wd_718 wd_719) wd_716 ⟨by decide, by decide, by decide +kernel⟩ (by decide)) rfl
    (sb_cons (pc2 := 36) (sx_if_eq (show decode cX12_soonest 33 = .ok (.ifCond .eq 5, 3) by decide +kernel) (by decide)) rfl
    (sb_cons (pc2 := 37) (sx_iconst (show decode cX12_soonest 36 = .ok (.iconst (-1), 1) by decide +kernel) (by decide)) rfl
    (sb_cons (pc2 := 38) (sx_reti (show decode cX12_soonest 37 = .ok (.ireturn, 1) by decide +kernel) rfl) rfl sb_nil)))))))))))))
  (ms_cons
  (sb_cons (pc2 := 39) (sx_iload_n (show decode cX12_soonest 38 = .ok (.iload_n 3, 1) by decide +kernel) rfl) rfl
    (sb_cons (pc2 := 41) (sx_istore (show decode cX12_soonest 39 = .ok (.istore 6, 2) by decide +kernel)) rfl sb_nil))
  (ms_cons
  (sb_cons (pc2 := 43) (sx_iload (show decode cX12_soonest 41 = .ok (.iload 6, 2) by decide +kernel)) rfl
    (sb_cons (pc2 := 44) (sx_iload_n (show decode cX12_soonest 43 = .ok (.iload_n 3, 1) by decide +kernel) rfl) rfl
    (sb_cons (pc2 := 47) (sx_sipush (show decode cX12_soonest 44 = .ok (.sipush 10080, 3) by decide +kernel) (by decide)) rfl
    (sb_cons (pc2 := 48) (sx_iadd (show decode cX12_soonest 47 = .ok (.iadd, 1) by decide +kernel)) rfl
    (sb_cons (pc2 := 51) (sx_icmp_gt (show decode cX12_soonest 48 = .ok (.if_icmp .gt 35, 3) by decide +kernel) (by decide)) rfl
    (sb_cons (pc2 := 53) (sx_iload (show decode cX12_soonest 51 = .ok (.iload 6, 2) by decide +kernel)) rfl
    (sb_cons (pc2 := 56) (sx_ldcw (show decode cX12_soonest 53 = .ok (.ldc_w 265, 3) by decide +kernel) wd_828) rfl
    (sb_cons (pc2 := 59) (sx_icmp_ge (show decode cX12_soonest 56 = .ok (.if_icmp .ge 27, 3) by decide +kernel) (by decide)) rfl
    (sb_cons (pc2 := 60) (sx_aload_n (show decode cX12_soonest 59 = .ok (.aload_n 0, 1) by decide +kernel) rfl) rfl
    (sb_cons (pc2 := 61) (sx_iload_n (show decode cX12_soonest 60 = .ok (.iload_n 1, 1) by decide +kernel) rfl) rfl
    (sb_cons (pc2 := 62) (sx_iload_n (show decode cX12_soonest 61 = .ok (.iload_n 2, 1) by decide +kernel) rfl) rfl
    (sb_cons (pc2 := 64) (sx_iload (show decode cX12_soonest 62 = .ok (.iload 6, 2) by decide +kernel)) rfl
    (sb_cons (pc2 := 66) (sx_iload (show decode cX12_soonest 64 = .ok (.iload 4, 2) by decide +kernel)) rfl
    (sb_cons (pc2 := 68) (sx_iload (show decode cX12_soonest 66 = .ok (.iload 5, 2) by decide +kernel)) rfl
    (sb_cons (pc2 := 71) (sx_cV (Y' := YX12_clashes) (q := (RX12, TX12, 69)) rfl (show decode cX12_soonest 68 = .ok (.invokevirtual 243, 3) by decide +kernel) rfl rfl (px_w4 wd_804 wd_805 wd_806 wd_719) wd_803 ⟨by decide, by decide, by decide +kernel⟩ (by decide)) rfl
    (sb_cons (pc2 := 74) (sx_if_ne (show decode cX12_soonest 71 = .ok (.ifCond .ne 6, 3) by decide +kernel) (by decide)) rfl
    (sb_cons (pc2 := 76) (sx_iload (show decode cX12_soonest 74 = .ok (.iload 6, 2) by decide +kernel)) rfl
    (sb_cons (pc2 := 77) (sx_reti (show decode cX12_soonest 76 = .ok (.ireturn, 1) by decide +kernel) rfl) rfl sb_nil))))))))))))))))))
  (ms_cons
  (sb_cons (pc2 := 80) (sx_iinc (show decode cX12_soonest 77 = .ok (.iinc 6 1, 3) by decide +kernel) (by decide)) rfl
    (sb_cons (pc2 := 83) (px_snd_goto (show decode cX12_soonest 80 = .ok (.goto (-39), 3) by decide +kernel) (by decide)) rfl sb_nil))
  (ms_cons
  (sb_cons (pc2 := 84) (sx_iconst (show decode cX12_soonest 83 = .ok (.iconst (-1), 1) by decide +kernel) (by decide)) rfl
    (sb_cons (pc2 := 85) (sx_reti (show decode cX12_soonest 84 = .ok (.ireturn, 1) by decide +kernel) rfl) rfl sb_nil))
  ms_nil))))))
def kX12_byteAt (X : px_X) : px_B := [(0, [], [px_iload 1, px_aload 0, px_getf 12 55, px_if2 (fun x y => decide (y ≤ x)) 17, px_aload 0, px_getf 12 36, px_iload 1, px_iald 0, px_goto 18], 17),
  (17, [false, false], [px_push (.int (-1))], 18),
  (18, [false, false], [px_reti], 19)]
set_option maxRecDepth 100000 in
set_option maxHeartbeats 8000000 in
theorem sX12_byteAt (d : Nat) (X : px_X) : px_MS d X YX12_byteAt (kX12_byteAt X) :=
  (ms_cons
  (sb_cons (pc2 := 1) (sx_iload_n (show decode cX12_byteAt 0 = .ok (.iload_n 1, 1) by decide +kernel) rfl) rfl
    (sb_cons (pc2 := 2) (sx_aload_n (show decode cX12_byteAt 1 = .ok (.aload_n 0, 1) by decide +kernel) rfl) rfl
    (sb_cons (pc2 := 5) (sx_getf (show decode cX12_byteAt 2 = .ok (.getfield 266, 3) by decide +kernel) rfl iX12 (by decide) wd_829) rfl
    (sb_cons (pc2 := 8) (sx_icmp_ge (show decode cX12_byteAt 5 = .ok (.if_icmp .ge 12, 3) by decide +kernel) (by decide)) rfl
    (sb_cons (pc2 := 9) (sx_aload_n (show decode cX12_byteAt 8 = .ok (.aload_n 0, 1) by decide +kernel) rfl) rfl
    (sb_cons (pc2 := 12) (sx_getf (show decode cX12_byteAt 9 = .ok (.getfield 96, 3) by decide +kernel) rfl iX12 (by decide) wd_699) rfl
    (sb_cons (pc2 := 13) (sx_iload_n (show decode cX12_byteAt 12 = .ok (.iload_n 1, 1) by decide +kernel) rfl) rfl
    (sb_cons (pc2 := 14) (sx_iald (show decode cX12_byteAt 13 = .ok (.iaload, 1) by decide +kernel)) rfl
    (sb_cons (pc2 := 17) (px_snd_goto (show decode cX12_byteAt 14 = .ok (.goto 4, 3) by decide +kernel) (by decide)) rfl sb_nil)))))))))
  (ms_cons
  (sb_cons (pc2 := 18) (sx_iconst (show decode cX12_byteAt 17 = .ok (.iconst (-1), 1) by decide +kernel) (by decide)) rfl sb_nil)
  (ms_cons
  (sb_cons (pc2 := 19) (sx_reti (show decode cX12_byteAt 18 = .ok (.ireturn, 1) by decide +kernel) rfl) rfl sb_nil)
  ms_nil)))
def kX12_isLetter (X : px_X) : px_B := [(0, [], [px_iload 0, px_push (.int 97), px_if2 (fun x y => decide (x < y)) 16, px_iload 0, px_push (.int 122), px_if2 (fun x y => decide (y < x)) 16, px_push (.int 1), px_goto 17], 16),
  (16, [false], [px_push (.int 0)], 17),
  (17, [false], [px_retz], 18)]
set_option maxRecDepth 100000 in
set_option maxHeartbeats 8000000 in
theorem sX12_isLetter (d : Nat) (X : px_X) : px_MS d X YX12_isLetter (kX12_isLetter X) :=
  (ms_cons
  (sb_cons (pc2 := 1) (sx_iload_n (show decode cX12_isLetter 0 = .ok (.iload_n 0, 1) by decide +kernel) rfl) rfl
    (sb_cons (pc2 := 3) (sx_bipush (show decode cX12_isLetter 1 = .ok (.bipush 97, 2) by decide +kernel) (by decide)) rfl
    (sb_cons (pc2 := 6) (sx_icmp_lt (show decode cX12_isLetter 3 = .ok (.if_icmp .lt 13, 3) by decide +kernel) (by decide)) rfl
    (sb_cons (pc2 := 7) (sx_iload_n (show decode cX12_isLetter 6 = .ok (.iload_n 0, 1) by decide +kernel) rfl) rfl
    (sb_cons (pc2 := 9) (sx_bipush (show decode cX12_isLetter 7 = .ok (.bipush 122, 2) by decide +kernel) (by decide)) rfl
    (sb_cons (pc2 := 12) (sx_icmp_gt (show decode cX12_isLetter 9 = .ok (.if_icmp .gt 7, 3) by decide +kernel) (by decide)) rfl
    (sb_cons (pc2 := 13) (sx_iconst (show decode cX12_isLetter 12 = .ok (.iconst 1, 1) by decide +kernel) (by decide)) rfl
    (sb_cons (pc2 := 16) (px_snd_goto (show decode cX12_isLetter 13 = .ok (.goto 4, 3) by decide +kernel) (by decide)) rfl sb_nil))))))))
  (ms_cons
  (sb_cons (pc2 := 17) (sx_iconst (show decode cX12_isLetter 16 = .ok (.iconst 0, 1) by decide +kernel) (by decide)) rfl sb_nil)
  (ms_cons
  (sb_cons (pc2 := 18) (sx_retz (show decode cX12_isLetter 17 = .ok (.ireturn, 1) by decide +kernel) rfl) rfl sb_nil)
  ms_nil)))
