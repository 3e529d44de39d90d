/-! the code of methods as pure instructions (written by wip/whole/gen.py) -/
def kX12_bonded (X : px_X) : px_B := [(0, [], [px_push (.int 0), px_istore 4, px_aload 0, px_iload 1, px_iload 2, px_push (.int 0), px_cV X 232 4 12, px_istore 5, px_push (.int 1), px_istore 6], 15),
  (15, [true, true, true, true, true, true, true, false, false], [px_iload 6, px_push (.int 50), px_if2 (fun x y => decide (y < x)) 91, px_push (.int (-1)), px_istore 7], 25),
  (25, [true, true, true, true, true, true, true, true, false], [px_iload 7, px_push (.int 1), px_if2 (fun x y => decide (y < x)) 85, px_aload 0, px_iload 1, px_iload 2, px_iload 7, px_iload 6, (px_i2 fun x y => x * y), px_cV X 232 4 12, px_istore 8, px_iload 8, px_iload 5, px_if2 (fun x y => decide (x ≤ y)) 59, px_iload 7, px_iload 6, (px_i2 fun x y => x * y), px_goto 61], 59),
  (59, [true, true, true, true, true, true, true, true, true], [px_iload 4], 61),
  (61, [true, true, true, true, false, true, true, true, true], [px_istore 4, px_iload 8, px_iload 5, px_if2 (fun x y => decide (x ≤ y)) 75, px_iload 8, px_goto 77], 75),
  (75, [true, true, true, true, true, true, true, true, false], [px_iload 5], 77),
  (77, [true, true, true, true, true, false, true, true, false], [px_istore 5, px_iinc 7 2, px_goto 25], 85),
  (85, [true, true, true, true, true, true, true, false, false], [px_iinc 6 1, px_goto 15], 91),
  (91, [false, false, false, true, true, true, false, false, false], [px_iload 3, px_if1 (fun x => decide (¬ x = 0)) 100, px_iload 5, px_goto 102], 100),
  (100, [false, false, false, false, true, false, false, false, false], [px_iload 4], 102),
  (102, [false, false, false, false, false, false, false, false, false], [px_reti], 103)]
set_option maxRecDepth 100000 in
set_option maxHeartbeats 8000000 in
theorem sX12_bonded (d : Nat) (X : px_X) : px_MS d X YX12_bonded (kX12_bonded X) :=
  (ms_cons
  (sb_cons (pc2 := 1) (sx_iconst (show decode cX12_bonded 0 = .ok (.iconst 0, 1) by decide +kernel) (by decide)) rfl
    (sb_cons (pc2 := 3) (sx_istore (show decode cX12_bonded 1 = .ok (.istore 4, 2) by decide +kernel)) rfl
    (sb_cons (pc2 := 4) (sx_aload_n (show decode cX12_bonded 3 = .ok (.aload_n 0, 1) by decide +kernel) rfl) rfl
    (sb_cons (pc2 := 5) (sx_iload_n (show decode cX12_bonded 4 = .ok (.iload_n 1, 1) by decide +kernel) rfl) rfl
    (sb_cons (pc2 := 6) (sx_iload_n (show decode cX12_bonded 5 = .ok (.iload_n 2, 1) by decide +kernel) rfl) rfl
    (sb_cons (pc2 := 7) (sx_iconst (show decode cX12_bonded 6 = .ok (.iconst 0, 1) by decide +kernel) (by decide)) rfl
    (sb_cons (pc2 := 10) (sx_cV (Y' := YX12_shared) (q := (RX12, TX12, 69)) rfl (show decode cX12_bonded 7 = .ok (.invokevirtual 361, 3) by decide +kernel) rfl rfl (px_w4 wd_918 wd_919 wd_920 wd_719) wd_917 ⟨by decide, by decide, by decide +kernel⟩ (by decide)) rfl
    (sb_cons (pc2 := 12) (sx_istore (show decode cX12_bonded 10 = .ok (.istore 5, 2) by decide +kernel)) rfl
    (sb_cons (pc2 := 13) (sx_iconst (show decode cX12_bonded 12 = .ok (.iconst 1, 1) by decide +kernel) (by decide)) rfl
    (sb_cons (pc2 := 15) (sx_istore (show decode cX12_bonded 13 = .ok (.istore 6, 2) by decide +kernel)) rfl sb_nil))))))))))
  (ms_cons
  (sb_cons (pc2 := 17) (sx_iload (show decode cX12_bonded 15 = .ok (.iload 6, 2) by decide +kernel)) rfl
    (sb_cons (pc2 := 19) (sx_bipush (show decode cX12_bonded 17 = .ok (.bipush 50, 2) by decide +kernel) (by decide)) rfl
    (sb_cons (pc2 := 22) (sx_icmp_gt (show decode cX12_bonded 19 = .ok (.if_icmp .gt 72, 3) by decide +kernel) (by decide)) rfl
    (sb_cons (pc2 := 23) (sx_iconst (show decode cX12_bonded 22 = .ok (.iconst (-1), 1) by decide +kernel) (by decide)) rfl
    (sb_cons (pc2 := 25) (sx_istore (show decode cX12_bonded 23 = .ok (.istore 7, 2) by decide +kernel)) rfl sb_nil)))))
  (ms_cons
  (sb_cons (pc2 := 27) (sx_iload (show decode cX12_bonded 25 = .ok (.iload 7, 2) by decide +kernel)) rfl
    (sb_cons (pc2 := 28) (sx_iconst (show decode cX12_bonded 27 = .ok (.iconst 1, 1) by decide +kernel) (by decide)) rfl
    (sb_cons (pc2 := 31) (sx_icmp_gt (show decode cX12_bonded 28 = .ok (.if_icmp .gt 57, 3) by decide +kernel) (by decide)) rfl
    (sb_cons (pc2 := 32) (sx_aload_n (show decode cX12_bonded 31 = .ok (.aload_n 0, 1) by decide +kernel) rfl) rfl
    (sb_cons (pc2 := 33) (sx_iload_n (show decode cX12_bonded 32 = .ok (.iload_n 1, 1) by decide +kernel) rfl) rfl
    (sb_cons (pc2 := 34) (sx_iload_n (show decode cX12_bonded 33 = .ok (.iload_n 2, 1) by decide +kernel) rfl) rfl
    (sb_cons (pc2 := 36) (sx_iload (show decode cX12_bonded 34 = .ok (.iload 7, 2) by decide +kernel)) rfl
    (sb_cons (pc2 := 38) (sx_iload (show decode cX12_bonded 36 = .ok (.iload 6, 2) by decide +kernel)) rfl
    (sb_cons (pc2 := 39) (sx_imul (show decode cX12_bonded 38 = .ok (.imul, 1) by decide +kernel)) rfl
    (sb_cons (pc2 := 42) (sx_cV (Y' := YX12_shared) (q := (RX12, TX12, 69)) rfl (show decode cX12_bonded 39 = .ok (.invokevirtual 361, 3) by decide +kernel) rfl rfl (px_w4 wd_918 wd_919 wd_920 wd_719) wd_917 ⟨by decide, by decide, by decide +kernel⟩ (by decide)) rfl
    (sb_cons (pc2 := 44) (sx_istore (show decode cX12_bonded 42 = .ok (.istore 8, 2) by decide +kernel)) rfl
    (sb_cons (pc2 := 46) (sx_iload (show decode cX12_bonded 44 = .ok (.iload 8, 2) by decide +kernel)) rfl
    (sb_cons (pc2 := 48) (sx_iload (show decode cX12_bonded 46 = .ok (.iload 5, 2) by decide +kernel)) rfl
    (sb_cons (pc2 := 51) (sx_icmp_le (show decode cX12_bonded 48 = .ok (.if_icmp .le 11, 3) by decide +kernel) (by decide)) rfl
    (sb_cons (pc2 := 53) (sx_iload (show decode cX12_bonded 51 = .ok (.iload 7, 2) by decide +kernel)) rfl
    (sb_cons (pc2 := 55) (sx_iload (show decode cX12_bonded 53 = .ok (.iload 6, 2) by decide +kernel)) rfl
    (sb_cons (pc2 := 56) (sx_imul (show decode cX12_bonded 55 = .ok (.imul, 1) by decide +kernel)) rfl
    (sb_cons (pc2 := 59) (px_snd_goto (show decode cX12_bonded 56 = .ok (.goto 5, 3) by decide +kernel) (by decide)) rfl sb_nil))))))))))))))))))
  (ms_cons
  (sb_cons (pc2 := 61) (sx_iload (show decode cX12_bonded 59 = .ok (.iload 4, 2) by decide +kernel)) rfl sb_nil)
  (ms_cons
  (sb_cons (pc2 := 63) (sx_istore (show decode cX12_bonded 61 = .ok (.istore 4, 2) by decide +kernel)) rfl
    (sb_cons (pc2 := 65) (sx_iload (show decode cX12_bonded 63 = .ok (.iload 8, 2) by decide +kernel)) rfl
    (sb_cons (pc2 := 67) (sx_iload (show decode cX12_bonded 65 = .ok (.iload 5, 2) by decide +kernel)) rfl
    (sb_cons (pc2 := 70) (sx_icmp_le (show decode cX12_bonded 67 = .ok (.if_icmp .le 8, 3) by decide +kernel) (by decide)) rfl
    (sb_cons (pc2 := 72) (sx_iload (show decode cX12_bonded 70 = .ok (.iload 8, 2) by decide +kernel)) rfl
    (sb_cons (pc2 := 75) (px_snd_goto (show decode cX12_bonded 72 = .ok (.goto 5, 3) by decide +kernel) (by decide)) rfl sb_nil))))))
  (ms_cons
  (sb_cons (pc2 := 77) (sx_iload (show decode cX12_bonded 75 = .ok (.iload 5, 2) by decide +kernel)) rfl sb_nil)
  (ms_cons
  (sb_cons (pc2 := 79) (sx_istore (show decode cX12_bonded 77 = .ok (.istore 5, 2) by decide +kernel)) rfl
    (sb_cons (pc2 := 82) (sx_iinc (show decode cX12_bonded 79 = .ok (.iinc 7 2, 3) by decide +kernel) (by decide)) rfl
    (sb_cons (pc2 := 85) (px_snd_goto (show decode cX12_bonded 82 = .ok (.goto (-57), 3) by decide +kernel) (by decide)) rfl sb_nil)))
  (ms_cons
  (sb_cons (pc2 := 88) (sx_iinc (show decode cX12_bonded 85 = .ok (.iinc 6 1, 3) by decide +kernel) (by decide)) rfl
    (sb_cons (pc2 := 91) (px_snd_goto (show decode cX12_bonded 88 = .ok (.goto (-73), 3) by decide +kernel) (by decide)) rfl sb_nil))
  (ms_cons
  (sb_cons (pc2 := 92) (sx_iload_n (show decode cX12_bonded 91 = .ok (.iload_n 3, 1) by decide +kernel) rfl) rfl
    (sb_cons (pc2 := 95) (sx_if_ne (show decode cX12_bonded 92 = .ok (.ifCond .ne 8, 3) by decide +kernel) (by decide)) rfl
    (sb_cons (pc2 := 97) (sx_iload (show decode cX12_bonded 95 = .ok (.iload 5, 2) by decide +kernel)) rfl
    (sb_cons (pc2 := 100) (px_snd_goto (show decode cX12_bonded 97 = .ok (.goto 5, 3) by decide +kernel) (by decide)) rfl sb_nil))))
  (ms_cons
  (sb_cons (pc2 := 102) (sx_iload (show decode cX12_bonded 100 = .ok (.iload 4, 2) by decide +kernel)) rfl sb_nil)
  (ms_cons
  (sb_cons (pc2 := 103) (sx_reti (show decode cX12_bonded 102 = .ok (.ireturn, 1) by decide +kernel) rfl) rfl sb_nil)
  ms_nil)))))))))))
def kX12_bond (X : px_X) : px_B := [(0, [], [px_aload 0, px_iload 1, px_cV X 183 2 12, px_if1 (fun x => decide (x = 0)) 40, px_aload 0, px_iload 2, px_cV X 183 2 12, px_if1 (fun x => decide (x = 0)) 40, px_iload 1, px_iload 2, px_if2 (fun x y => decide (x = y)) 40, px_iload 3, px_push (.int 0), px_push (.int 1), px_cS X 165 3, px_if1 (fun x => decide (x = 0)) 40, px_aload 0, px_iload 1, px_iload 2, px_iload 3, px_cV X 233 4 12, px_goto 43], 40),
  (40, [false, false, false, false], [px_push (.int (-1000))], 43),
  (43, [false, false, false, false], [px_reti], 44)]
set_option maxRecDepth 100000 in
set_option maxHeartbeats 8000000 in
theorem sX12_bond (d : Nat) (X : px_X) : px_MS d X YX12_bond (kX12_bond X) :=
  (ms_cons
  (sb_cons (pc2 := 1) (sx_aload_n (show decode cX12_bond 0 = .ok (.aload_n 0, 1) by decide +kernel) rfl) rfl
    (sb_cons (pc2 := 2) (sx_iload_n (show decode cX12_bond 1 = .ok (.iload_n 1, 1) by decide +kernel) rfl) rfl
    (sb_cons (pc2 := 5) (sx_cV (Y' := YX12_isTimber) (q := (RX12, TX12, 69)) rfl (show decode cX12_bond 2 = .ok (.invokevirtual 199, 3) by decide +kernel) rfl rfl (px_w4 wd_765 wd_766 wd_767 wd_719) wd_764 ⟨by decide, by decide, by decide +kernel⟩ (by decide)) rfl
    (sb_cons (pc2 := 8) (sx_if_eq (show decode cX12_bond 5 = .ok (.ifCond .eq 35, 3) by decide +kernel) (by decide)) rfl
    (sb_cons (pc2 := 9) (sx_aload_n (show decode cX12_bond 8 = .ok (.aload_n 0, 1) by decide +kernel) rfl) rfl
    (sb_cons (pc2 := 10) (sx_iload_n (show decode cX12_bond 9 = .ok (.iload_n 2, 1) by decide +kernel) rfl) rfl
    (sb_cons (pc2 := 13) (sx_cV (Y' := YX12_isTimber) (q := (RX12, TX12, 69)) rfl (show decode cX12_bond 10 = .ok (.invokevirtual 199, 3) by decide +kernel) rfl rfl (px_w4 wd_765 wd_766 wd_767 wd_719) wd_764 ⟨by decide, by decide, by decide +kernel⟩ (by decide)) rfl
    (sb_cons (pc2 := 16) (sx_if_eq (show decode cX12_bond 13 = .ok (.ifCond .eq 27, 3) by decide +kernel) (by decide)) rfl
    (sb_cons (pc2 := 17) (sx_iload_n (show decode cX12_bond 16 = .ok (.iload_n 1, 1) by decide +kernel) rfl) rfl
    (sb_cons (pc2 := 18) (sx_iload_n (show decode cX12_bond 17 = .ok (.iload_n 2, 1) by decide +kernel) rfl) rfl
    (sb_cons (pc2 := 21) (sx_icmp_eq (show decode cX12_bond 18 = .ok (.if_icmp .eq 22, 3) by decide +kernel) (by decide)) rfl
    (sb_cons (pc2 := 22) (sx_iload_n (show decode cX12_bond 21 = .ok (.iload_n 3, 1) by decide +kernel) rfl) rfl
    (sb_cons (pc2 := 23) (sx_iconst (show decode cX12_bond 22 = .ok (.iconst 0, 1) by decide +kernel) (by decide)) rfl
    (sb_cons (pc2 := 24) (sx_iconst (show decode cX12_bond 23 = .ok (.iconst 1, 1) by decide +kernel) (by decide)) rfl
    (sb_cons (pc2 := 27) (sx_cS (Y' := YX12_in) rfl (show decode cX12_bond 24 = .ok (.invokestatic 147, 3) by decide +kernel) rfl (px_w3 wd_717 wd_718 wd_719) wd_716 ⟨by decide, by decide, by decide +kernel⟩ (by decide)) rfl
    (sb_cons (pc2 := 30) (sx_if_eq (show decode cX12_bond 27 = .ok (.ifCond .eq 13, 3) by decide +kernel) (by decide)) rfl
    (sb_cons (pc2 := 31) (sx_aload_n (show decode cX12_bond 30 = .ok (.aload_n 0, 1) by decide +kernel) rfl) rfl
    (sb_cons (pc2 := 32) (sx_iload_n (show decode cX12_bond 31 = .ok (.iload_n 1, 1) by decide +kernel) rfl) rfl
    (sb_cons (pc2 := 33) (sx_iload_n (show decode cX12_bond 32 = .ok (.iload_n 2, 1) by decide +kernel) rfl) rfl
    (sb_cons (pc2 := 34) (sx_iload_n (show decode cX12_bond 33 = .ok (.iload_n 3, 1) by decide +kernel) rfl) rfl
    (sb_cons (pc2 := 37) (sx_cV (Y' := YX12_bonded) (q := (RX12, TX12, 69)) rfl (show decode cX12_bond 34 = .ok (.invokevirtual 364, 3) by decide +kernel) rfl rfl (px_w4 wd_922 wd_923 wd_924 wd_719) wd_921 ⟨by decide, by decide, by decide +kernel⟩ (by decide)) rfl
    (sb_cons (pc2 := 40) (px_snd_goto (show decode cX12_bond 37 = .ok (.goto 6, 3) by decide +kernel) (by decide)) rfl sb_nil))))))))))))))))))))))
  (ms_cons
  (sb_cons (pc2 := 43) (sx_sipush (show decode cX12_bond 40 = .ok (.sipush (-1000), 3) by decide +kernel) (by decide)) rfl sb_nil)
  (ms_cons
  (sb_cons (pc2 := 44) (sx_reti (show decode cX12_bond 43 = .ok (.ireturn, 1) by decide +kernel) rfl) rfl sb_nil)
  ms_nil)))
def kX12_bestOf (X : px_X) : px_B := [(0, [], [px_push (.int (-1)), px_istore 2, px_push (.int 1), px_istore 3, px_push (.int 0), px_istore 4], 7),
  (7, [true, true, true, true, true], [px_iload 4, px_aload 0, px_getf 12 13, px_if2 (fun x y => decide (y ≤ x)) 63, px_iload 4, px_iload 1, px_if2 (fun x y => decide (x = y)) 57, px_aload 0, px_getf 12 14, px_iload 4, px_iald 0, px_push (.int 1), px_if2 (fun x y => decide (¬ x = y)) 57, px_aload 0, px_iload 1, px_iload 4, px_push (.int 0), px_cV X 233 4 12, px_iload 3, px_if2 (fun x y => decide (x ≤ y)) 57, px_aload 0, px_iload 1, px_iload 4, px_push (.int 0), px_cV X 233 4 12, px_istore 3, px_iload 4, px_istore 2], 57),
  (57, [true, true, true, true, true], [px_iinc 4 1, px_goto 7], 63),
  (63, [false, false, true, false, false], [px_iload 2, px_reti], 65)]
set_option maxRecDepth 100000 in
set_option maxHeartbeats 8000000 in
theorem sX12_bestOf (d : Nat) (X : px_X) : px_MS d X YX12_bestOf (kX12_bestOf X) :=
  (ms_cons
  (sb_cons (pc2 := 1) (sx_iconst (show decode cX12_bestOf 0 = .ok (.iconst (-1), 1) by decide +kernel) (by decide)) rfl
    (sb_cons (pc2 := 2) (sx_istore_n (show decode cX12_bestOf 1 = .ok (.istore_n 2, 1) by decide +kernel) rfl) rfl
    (sb_cons (pc2 := 3) (sx_iconst (show decode cX12_bestOf 2 = .ok (.iconst 1, 1) by decide +kernel) (by decide)) rfl
    (sb_cons (pc2 := 4) (sx_istore_n (show decode cX12_bestOf 3 = .ok (.istore_n 3, 1) by decide +kernel) rfl) rfl
    (sb_cons (pc2 := 5) (sx_iconst (show decode cX12_bestOf 4 = .ok (.iconst 0, 1) by decide +kernel) (by decide)) rfl
    (sb_cons (pc2 := 7) (sx_istore (show decode cX12_bestOf 5 = .ok (.istore 4, 2) by decide +kernel)) rfl sb_nil))))))
  (ms_cons
  (sb_cons (pc2 := 9) (sx_iload (show decode cX12_bestOf 7 = .ok (.iload 4, 2) by decide +kernel)) rfl
    (sb_cons (pc2 := 10) (sx_aload_n (show decode cX12_bestOf 9 = .ok (.aload_n 0, 1) by decide +kernel) rfl) rfl
    (sb_cons (pc2 := 13) (sx_getf (show decode cX12_bestOf 10 = .ok (.getfield 151, 3) by decide +kernel) rfl iX12 (by decide) wd_720) rfl
    (sb_cons (pc2 := 16) (sx_icmp_ge (show decode cX12_bestOf 13 = .ok (.if_icmp .ge 50, 3) by decide +kernel) (by decide)) rfl
    (sb_cons (pc2 := 18) (sx_iload (show decode cX12_bestOf 16 = .ok (.iload 4, 2) by decide +kernel)) rfl
    (sb_cons (pc2 := 19) (sx_iload_n (show decode cX12_bestOf 18 = .ok (.iload_n 1, 1) by decide +kernel) rfl) rfl
    (sb_cons (pc2 := 22) (sx_icmp_eq (show decode cX12_bestOf 19 = .ok (.if_icmp .eq 38, 3) by decide +kernel) (by decide)) rfl
    (sb_cons (pc2 := 23) (sx_aload_n (show decode cX12_bestOf 22 = .ok (.aload_n 0, 1) by decide +kernel) rfl) rfl
    (sb_cons (pc2 := 26) (sx_getf (show decode cX12_bestOf 23 = .ok (.getfield 42, 3) by decide +kernel) rfl iX12 (by decide) wd_681) rfl
    (sb_cons (pc2 := 28) (sx_iload (show decode cX12_bestOf 26 = .ok (.iload 4, 2) by decide +kernel)) rfl
    (sb_cons (pc2 := 29) (sx_iald (show decode cX12_bestOf 28 = .ok (.iaload, 1) by decide +kernel)) rfl
    (sb_cons (pc2 := 30) (sx_iconst (show decode cX12_bestOf 29 = .ok (.iconst 1, 1) by decide +kernel) (by decide)) rfl
    (sb_cons (pc2 := 33) (sx_icmp_ne (show decode cX12_bestOf 30 = .ok (.if_icmp .ne 27, 3) by decide +kernel) (by decide)) rfl
    (sb_cons (pc2 := 34) (sx_aload_n (show decode cX12_bestOf 33 = .ok (.aload_n 0, 1) by decide +kernel) rfl) rfl
    (sb_cons (pc2 := 35) (sx_iload_n (show decode cX12_bestOf 34 = .ok (.iload_n 1, 1) by decide +kernel) rfl) rfl
    (sb_cons (pc2 := 37) (sx_iload (show decode cX12_bestOf 35 = .ok (.iload 4, 2) by decide +kernel)) rfl
    (sb_cons (pc2 := 38) (sx_iconst (show decode cX12_bestOf 37 = .ok (.iconst 0, 1) by decide +kernel) (by decide)) rfl
    (sb_cons (pc2 := 41) (sx_cV (Y' := YX12_bonded) (q := (RX12, TX12, 69)) rfl (show decode cX12_bestOf 38 = .ok (.invokevirtual 364, 3) by decide +kernel) rfl rfl (px_w4 wd_922 wd_923 wd_924 wd_719) wd_921 ⟨by decide, by decide, by decide +kernel⟩ (by decide)) rfl
    (sb_cons (pc2 := 42) (sx_iload_n (show decode cX12_bestOf 41 = .ok (.iload_n 3, 1) by decide +kernel) rfl) rfl
    (sb_cons (pc2 := 45) (sx_icmp_le (show decode cX12_bestOf 42 = .ok (.if_icmp .le 15, 3) by decide +kernel) (by decide)) rfl
    (sb_cons (pc2 := 46) (sx_aload_n (show decode cX12_bestOf 45 = .ok (.aload_n 0, 1) by decide +kernel) rfl) rfl
    (sb_cons (pc2 := 47) (sx_iload_n (show decode cX12_bestOf 46 = .ok (.iload_n 1, 1) by decide +kernel) rfl) rfl
    (sb_cons (pc2 := 49) (sx_iload (show decode cX12_bestOf 47 = .ok (.iload 4, 2) by decide +kernel)) rfl
    (sb_cons (pc2 := 50) (sx_iconst (show decode cX12_bestOf 49 = .ok (.iconst 0, 1) by decide +kernel) (by decide)) rfl
    (sb_cons (pc2 := 53) (sx_cV (Y' := YX12_bonded) (q := (RX12, TX12, 69)) rfl (show decode cX12_bestOf 50 = .ok (.invokevirtual 364, 3) by decide +kernel) rfl rfl (px_w4 wd_922 wd_923 wd_924 wd_719) wd_921 ⟨by decide, by decide, by decide +kernel⟩ (by decide)) rfl
    (sb_cons (pc2 := 54) (sx_istore_n (show decode cX12_bestOf 53 = .ok (.istore_n 3, 1) by decide +kernel) rfl) rfl
    (sb_cons (pc2 := 56) (sx_iload (show decode cX12_bestOf 54 = .ok (.iload 4, 2) by decide +kernel)) rfl
    (sb_cons (pc2 := 57) (sx_istore_n (show decode cX12_bestOf 56 = .ok (.istore_n 2, 1) by decide +kernel) rfl) rfl sb_nil))))))))))))))))))))))))))))
  (ms_cons
  (sb_cons (pc2 := 60) (sx_iinc (show decode cX12_bestOf 57 = .ok (.iinc 4 1, 3) by decide +kernel) (by decide)) rfl
    (sb_cons (pc2 := 63) (px_snd_goto (show decode cX12_bestOf 60 = .ok (.goto (-53), 3) by decide +kernel) (by decide)) rfl sb_nil))
  (ms_cons
  (sb_cons (pc2 := 64) (sx_iload_n (show decode cX12_bestOf 63 = .ok (.iload_n 2, 1) by decide +kernel) rfl) rfl
    (sb_cons (pc2 := 65) (sx_reti (show decode cX12_bestOf 64 = .ok (.ireturn, 1) by decide +kernel) rfl) rfl sb_nil))
  ms_nil))))
def kX12_best (X : px_X) : px_B := [(0, [], [px_aload 0, px_iload 1, px_cV X 183 2 12, px_if1 (fun x => decide (x = 0)) 16, px_aload 0, px_iload 1, px_cV X 235 2 12, px_goto 18], 16),
  (16, [false, false], [px_push (.int (-2))], 18),
  (18, [false, false], [px_reti], 19)]
set_option maxRecDepth 100000 in
set_option maxHeartbeats 8000000 in
theorem sX12_best (d : Nat) (X : px_X) : px_MS d X YX12_best (kX12_best X) :=
  (ms_cons
  (sb_cons (pc2 := 1) (sx_aload_n (show decode cX12_best 0 = .ok (.aload_n 0, 1) by decide +kernel) rfl) rfl
    (sb_cons (pc2 := 2) (sx_iload_n (show decode cX12_best 1 = .ok (.iload_n 1, 1) by decide +kernel) rfl) rfl
    (sb_cons (pc2 := 5) (sx_cV (Y' := YX12_isTimber) (q := (RX12, TX12, 69)) rfl (show decode cX12_best 2 = .ok (.invokevirtual 199, 3) by decide +kernel) rfl rfl (px_w4 wd_765 wd_766 wd_767 wd_719) wd_764 ⟨by decide, by decide, by decide +kernel⟩ (by decide)) rfl
    (sb_cons (pc2 := 8) (sx_if_eq (show decode cX12_best 5 = .ok (.ifCond .eq 11, 3) by decide +kernel) (by decide)) rfl
    (sb_cons (pc2 := 9) (sx_aload_n (show decode cX12_best 8 = .ok (.aload_n 0, 1) by decide +kernel) rfl) rfl
    (sb_cons (pc2 := 10) (sx_iload_n (show decode cX12_best 9 = .ok (.iload_n 1, 1) by decide +kernel) rfl) rfl
    (sb_cons (pc2 := 13) (sx_cV (Y' := YX12_bestOf) (q := (RX12, TX12, 69)) rfl (show decode cX12_best 10 = .ok (.invokevirtual 367, 3) by decide +kernel) rfl rfl (px_w4 wd_926 wd_927 wd_928 wd_719) wd_925 ⟨by decide, by decide, by decide +kernel⟩ (by decide)) rfl
    (sb_cons (pc2 := 16) (px_snd_goto (show decode cX12_best 13 = .ok (.goto 5, 3) by decide +kernel) (by decide)) rfl sb_nil))))))))
  (ms_cons
  (sb_cons (pc2 := 18) (sx_bipush (show decode cX12_best 16 = .ok (.bipush (-2), 2) by decide +kernel) (by decide)) rfl sb_nil)
  (ms_cons
  (sb_cons (pc2 := 19) (sx_reti (show decode cX12_best 18 = .ok (.ireturn, 1) by decide +kernel) rfl) rfl sb_nil)
  ms_nil)))
def kX12_joined (X : px_X) : px_B := [(0, [], [px_aload 0, px_iload 1, px_cV X 183 2 12, px_if1 (fun x => decide (¬ x = 0)) 11, px_push (.int (-2)), px_reti], 11),
  (11, [true, true, false], [px_aload 0, px_iload 1, px_cV X 235 2 12, px_istore 2, px_iload 2, px_push (.int (-1)), px_if2 (fun x y => decide (x = y)) 35, px_aload 0, px_iload 2, px_cV X 235 2 12, px_iload 1, px_if2 (fun x y => decide (¬ x = y)) 35, px_iload 2, px_goto 36], 35),
  (35, [false, false, false], [px_push (.int (-1))], 36),
  (36, [false, false, false], [px_reti], 37)]
set_option maxRecDepth 100000 in
set_option maxHeartbeats 8000000 in
theorem sX12_joined (d : Nat) (X : px_X) : px_MS d X YX12_joined (kX12_joined X) :=
  (ms_cons
  (sb_cons (pc2 := 1) (sx_aload_n (show decode cX12_joined 0 = .ok (.aload_n 0, 1) by decide +kernel) rfl) rfl
    (sb_cons (pc2 := 2) (sx_iload_n (show decode cX12_joined 1 = .ok (.iload_n 1, 1) by decide +kernel) rfl) rfl
    (sb_cons (pc2 := 5) (sx_cV (Y' := YX12_isTimber) (q := (RX12, TX12, 69)) rfl (show decode cX12_joined 2 = .ok (.invokevirtual 199, 3) by decide +kernel) rfl rfl (px_w4 wd_765 wd_766 wd_767 wd_719) wd_764 ⟨by decide, by decide, by decide +kernel⟩ (by decide)) rfl
    (sb_cons (pc2 := 8) (sx_if_ne (show decode cX12_joined 5 = .ok (.ifCond .ne 6, 3) by decide +kernel) (by decide)) rfl
    (sb_cons (pc2 := 10) (sx_bipush (show decode cX12_joined 8 = .ok (.bipush (-2), 2) by decide +kernel) (by decide)) rfl
    (sb_cons (pc2 := 11) (sx_reti (show decode cX12_joined 10 = .ok (.ireturn, 1) by decide +kernel) rfl) rfl sb_nil))))))
  (ms_cons
  (sb_cons (pc2 := 12) (sx_aload_n (show decode cX12_joined 11 = .ok (.aload_n 0, 1) by decide +kernel) rfl) rfl
    (sb_cons (pc2 := 13) (sx_iload_n (show decode cX12_joined 12 = .ok (.iload_n 1, 1) by decide +kernel) rfl) rfl
    (sb_cons (pc2 := 16) (sx_cV (Y' := YX12_bestOf) (q := (RX12, TX12, 69)) rfl (show decode cX12_joined 13 = .ok (.invokevirtual 367, 3) by decide +kernel) rfl rfl (px_w4 wd_926 wd_927 wd_928 wd_719) wd_925 ⟨by decide, by decide, by decide +kernel⟩ (by decide)) rfl
    (sb_cons (pc2 := 17) (sx_istore_n (show decode cX12_joined 16 = .ok (.istore_n 2, 1) by decide +kernel) rfl) rfl
    (sb_cons (pc2 := 18) (sx_iload_n (show decode cX12_joined 17 = .ok (.iload_n 2, 1) by decide +kernel) rfl) rfl
    (sb_cons (pc2 := 19) (sx_iconst (show decode cX12_joined 18 = .ok (.iconst (-1), 1) by decide +kernel) (by decide)) rfl
    (sb_cons (pc2 := 22) (sx_icmp_eq (show decode cX12_joined 19 = .ok (.if_icmp .eq 16, 3) by decide +kernel) (by decide)) rfl
    (sb_cons (pc2 := 23) (sx_aload_n (show decode cX12_joined 22 = .ok (.aload_n 0, 1) by decide +kernel) rfl) rfl
    (sb_cons (pc2 := 24) (sx_iload_n (show decode cX12_joined 23 = .ok (.iload_n 2, 1) by decide +kernel) rfl) rfl
    (sb_cons (pc2 := 27) (sx_cV (Y' := YX12_bestOf) (q := (RX12, TX12, 69)) rfl (show decode cX12_joined 24 = .ok (.invokevirtual 367, 3) by decide +kernel) rfl rfl (px_w4 wd_926 wd_927 wd_928 wd_719) wd_925 ⟨by decide, by decide, by decide +kernel⟩ (by decide)) rfl
    (sb_cons (pc2 := 28) (sx_iload_n (show decode cX12_joined 27 = .ok (.iload_n 1, 1) by decide +kernel) rfl) rfl
    (sb_cons (pc2 := 31) (sx_icmp_ne (show decode cX12_joined 28 = .ok (.if_icmp .ne 7, 3) by decide +kernel) (by decide)) rfl
    (sb_cons (pc2 := 32) (sx_iload_n (show decode cX12_joined 31 = .ok (.iload_n 2, 1) by decide +kernel) rfl) rfl
    (sb_cons (pc2 := 35) (px_snd_goto (show decode cX12_joined 32 = .ok (.goto 4, 3) by decide +kernel) (by decide)) rfl sb_nil))))))))))))))
  (ms_cons
  (sb_cons (pc2 := 36) (sx_iconst (show decode cX12_joined 35 = .ok (.iconst (-1), 1) by decide +kernel) (by decide)) rfl sb_nil)
  (ms_cons
  (sb_cons (pc2 := 37) (sx_reti (show decode cX12_joined 36 = .ok (.ireturn, 1) by decide +kernel) rfl) rfl sb_nil)
  ms_nil))))
def kX12_task (X : px_X) : px_B := [(0, [], [px_iload 1, px_push (.int 1), px_push (.int 200), px_cS X 165 3, px_if1 (fun x => decide (x = 0)) 22, px_iload 2, px_push (.int 0), px_push (.int 999), px_cS X 165 3, px_if1 (fun x => decide (¬ x = 0)) 25], 22),
  (22, [false, false, false], [px_push (.int (-2)), px_reti], 25),
  (25, [true, true, true], [px_aload 0, px_getf 12 42, px_push (.int 9), px_if2 (fun x y => decide (¬ x = y)) 37, px_push (.int (-4)), px_reti], 37),
  (37, [true, true, true], [px_aload 0, px_getf 12 43, px_aload 0, px_getf 12 42, px_iload 1, px_iast 0, px_aload 0, px_getf 12 44, px_aload 0, px_getf 12 42, px_iload 2, px_iast 0, px_aload 0, px_dup, px_getf 12 42, px_push (.int 1), (px_i2 fun x y => x + y), px_puti 12 42, px_aload 0, px_push (.int 0), px_putz 12 47, px_aload 0, px_getf 12 42, px_push (.int 1), (px_i2 fun x y => x - y), px_reti], 79)]
set_option maxRecDepth 100000 in
set_option maxHeartbeats 8000000 in
theorem sX12_task (d : Nat) (X : px_X) : px_MS d X YX12_task (kX12_task X) :=
  (ms_cons
  (sb_cons (pc2 := 1) (sx_iload_n (show decode cX12_task 0 = .ok (.iload_n 1, 1) by decide +kernel) rfl) rfl
    (sb_cons (pc2 := 2) (sx_iconst (show decode cX12_task 1 = .ok (.iconst 1, 1) by decide +kernel) (by decide)) rfl
    (sb_cons (pc2 := 5) (sx_sipush (show decode cX12_task 2 = .ok (.sipush 200, 3) by decide +kernel) (by decide)) rfl
    (sb_cons (pc2 := 8) (sx_cS (Y' := YX12_in) rfl (show decode cX12_task 5 = .ok (.invokestatic 147, 3) by decide +kernel) rfl (px_w3 wd_717 wd_718 wd_719) wd_716 ⟨by decide, by decide, by decide +kernel⟩ (by decide)) rfl
    (sb_cons (pc2 := 11) (sx_if_eq (show decode cX12_task 8 = .ok (.ifCond .eq 14, 3) by decide +kernel) (by decide)) rfl
    (sb_cons (pc2 := 12) (sx_iload_n (show decode cX12_task 11 = .ok (.iload_n 2, 1) by decide +kernel) rfl) rfl
    (sb_cons (pc2 := 13) (sx_iconst (show decode cX12_task 12 = .ok (.iconst 0, 1) by decide +kernel) (by decide)) rfl
    (sb_cons (pc2 := 16) (sx_sipush (show decode cX12_task 13 = .ok (.sipush 999, 3) by decide +kernel) (by decide)) rfl
    (sb_cons (pc2 := 19) (sx_cS (Y' := YX12_in) rfl (show decode cX12_task 16 = .ok (.invokestatic 147, 3) by decide +kernel) rfl (px_w3 wd_717 wd_718 wd_719) wd_716 ⟨by decide, by decide, by decide +kernel⟩ (by decide)) rfl
    (sb_cons (pc2 := 22) (sx_if_ne (show decode cX12_task 19 = .ok (.ifCond .ne 6, 3) by decide +kernel) (by decide)) rfl sb_nil))))))))))
  (ms_cons
  (sb_cons (pc2 := 24) (sx_bipush (show decode cX12_task 22 = .ok (.bipush (-2), 2) by decide +kernel) (by decide)) rfl
    (sb_cons (pc2 := 25) (sx_reti (show decode cX12_task 24 = .ok (.ireturn, 1) by decide +kernel) rfl) rfl sb_nil))
  (ms_cons
  (sb_cons (pc2 := 26) (sx_aload_n (show decode cX12_task 25 = .ok (.aload_n 0, 1) by decide +kernel) rfl) rfl
    (sb_cons (pc2 := 29) (sx_getf (show decode cX12_task 26 = .ok (.getfield 370, 3) by decide +kernel) rfl iX12 (by decide) wd_929) rfl
    (sb_cons (pc2 := 31) (sx_bipush (show decode cX12_task 29 = .ok (.bipush 9, 2) by decide +kernel) (by decide)) rfl
    (sb_cons (pc2 := 34) (sx_icmp_ne (show decode cX12_task 31 = .ok (.if_icmp .ne 6, 3) by decide +kernel) (by decide)) rfl
    (sb_cons (pc2 := 36) (sx_bipush (show decode cX12_task 34 = .ok (.bipush (-4), 2) by decide +kernel) (by decide)) rfl
    (sb_cons (pc2 := 37) (sx_reti (show decode cX12_task 36 = .ok (.ireturn, 1) by decide +kernel) rfl) rfl sb_nil))))))
  (ms_cons
  (sb_cons (pc2 := 38) (sx_aload_n (show decode cX12_task 37 = .ok (.aload_n 0, 1) by decide +kernel) rfl) rfl
    (sb_cons (pc2 := 41) (sx_getf (show decode cX12_task 38 = .ok (.getfield 108, 3) by decide +kernel) rfl iX12 (by decide) wd_703) rfl
    (sb_cons (pc2 := 42) (sx_aload_n (show decode cX12_task 41 = .ok (.aload_n 0, 1) by decide +kernel) rfl) rfl
    (sb_cons (pc2 := 45) (sx_getf (show decode cX12_task 42 = .ok (.getfield 370, 3) by decide +kernel) rfl iX12 (by decide) wd_929) rfl
    (sb_cons (pc2 := 46) (sx_iload_n (show decode cX12_task 45 = .ok (.iload_n 1, 1) by decide +kernel) rfl) rfl
    (sb_cons (pc2 := 47) (sx_iast (show decode cX12_task 46 = .ok (.iastore, 1) by decide +kernel)) rfl
    (sb_cons (pc2 := 48) (sx_aload_n (show decode cX12_task 47 = .ok (.aload_n 0, 1) by decide +kernel) rfl) rfl
    (sb_cons (pc2 := 51) (sx_getf (show decode cX12_task 48 = .ok (.getfield 111, 3) by decide +kernel) rfl iX12 (by decide) wd_704) rfl
    (sb_cons (pc2 := 52) (sx_aload_n (show decode cX12_task 51 = .ok (.aload_n 0, 1) by decide +kernel) rfl) rfl
    (sb_cons (pc2 := 55) (sx_getf (show decode cX12_task 52 = .ok (.getfield 370, 3) by decide +kernel) rfl iX12 (by decide) wd_929) rfl
    (sb_cons (pc2 := 56) (sx_iload_n (show decode cX12_task 55 = .ok (.iload_n 2, 1) by decide +kernel) rfl) rfl
    (sb_cons (pc2 := 57) (sx_iast (show decode cX12_task 56 = .ok (.iastore, 1) by decide +kernel)) rfl
    (sb_cons (pc2 := 58) (sx_aload_n (show decode cX12_task 57 = .ok (.aload_n 0, 1) by decide +kernel) rfl) rfl
    (sb_cons (pc2 := 59) (sx_dup (show decode cX12_task 58 = .ok (.dup, 1) by decide +kernel)) rfl
    (sb_cons (pc2 := 62) (sx_getf (show decode cX12_task 59 = .ok (.getfield 370, 3) by decide +kernel) rfl iX12 (by decide) wd_929) rfl
    (sb_cons (pc2 := 63) (sx_iconst (show decode cX12_task 62 = .ok (.iconst 1, 1) by decide +kernel) (by decide)) rfl
    (sb_cons (pc2 := 64) (sx_iadd (show decode cX12_task 63 = .ok (.iadd, 1) by decide +kernel)) rfl
    (sb_cons (pc2 := 67) (sx_puti (show decode cX12_task 64 = .ok (.putfield 370, 3) by decide +kernel) rfl iX12 tyX12_ok nmX12 (by decide) wd_929 rfl (Or.inl rfl)) rfl
    (sb_cons (pc2 := 68) (sx_aload_n (show decode cX12_task 67 = .ok (.aload_n 0, 1) by decide +kernel) rfl) rfl
    (sb_cons (pc2 := 69) (sx_iconst (show decode cX12_task 68 = .ok (.iconst 0, 1) by decide +kernel) (by decide)) rfl
    (sb_cons (pc2 := 72) (sx_putz (show decode cX12_task 69 = .ok (.putfield 373, 3) by decide +kernel) rfl iX12 tyX12_ok nmX12 (by decide) wd_930 rfl rfl) rfl
    (sb_cons (pc2 := 73) (sx_aload_n (show decode cX12_task 72 = .ok (.aload_n 0, 1) by decide +kernel) rfl) rfl
    (sb_cons (pc2 := 76) (sx_getf (show decode cX12_task 73 = .ok (.getfield 370, 3) by decide +kernel) rfl iX12 (by decide) wd_929) rfl
    (sb_cons (pc2 := 77) (sx_iconst (show decode cX12_task 76 = .ok (.iconst 1, 1) by decide +kernel) (by decide)) rfl
    (sb_cons (pc2 := 78) (sx_isub (show decode cX12_task 77 = .ok (.isub, 1) by decide +kernel)) rfl
    (sb_cons (pc2 := 79) (sx_reti (show decode cX12_task 78 = .ok (.ireturn, 1) by decide +kernel) rfl) rfl sb_nil))))))))))))))))))))))))))
  ms_nil))))
def kX12_gang (X : px_X) : px_B := [(0, [], [px_iload 1, px_push (.int 0), px_push (.int 400), px_cS X 165 3, px_if1 (fun x => decide (¬ x = 0)) 14, px_push (.int (-2)), px_reti], 14),
  (14, [true, true], [px_aload 0, px_getf 12 45, px_push (.int 4), px_if2 (fun x y => decide (¬ x = y)) 25, px_push (.int (-4)), px_reti], 25),
  (25, [true, true], [px_aload 0, px_getf 12 46, px_aload 0, px_getf 12 45, px_iload 1, px_iast 0, px_aload 0, px_dup, px_getf 12 45, px_push (.int 1), (px_i2 fun x y => x + y), px_puti 12 45, px_aload 0, px_push (.int 0), px_putz 12 47, px_aload 0, px_getf 12 45, px_push (.int 1), (px_i2 fun x y => x - y), px_reti], 57)]
set_option maxRecDepth 100000 in
set_option maxHeartbeats 8000000 in
theorem sX12_gang (d : Nat) (X : px_X) : px_MS d X YX12_gang (kX12_gang X) :=
  (ms_cons
  (sb_cons (pc2 := 1) (sx_iload_n (show decode cX12_gang 0 = .ok (.iload_n 1, 1) by decide +kernel) rfl) rfl
    (sb_cons (pc2 := 2) (sx_iconst (show decode cX12_gang 1 = .ok (.iconst 0, 1) by decide +kernel) (by decide)) rfl
    (sb_cons (pc2 := 5) (sx_sipush (show decode cX12_gang 2 = .ok (.sipush 400, 3) by decide +kernel) (by decide)) rfl
    (sb_cons (pc2 := 8) (sx_cS (Y' := YX12_in) rfl (show decode cX12_gang 5 = .ok (.invokestatic 147, 3) by decide +kernel) rfl (px_w3 wd_717 wd_718 wd_719) wd_716 ⟨by decide, by decide, by decide +kernel⟩ (by decide)) rfl
    (sb_cons (pc2 := 11) (sx_if_ne (show decode cX12_gang 8 = .ok (.ifCond .ne 6, 3) by decide +kernel) (by decide)) rfl
    (sb_cons (pc2 := 13) (sx_bipush (show decode cX12_gang 11 = .ok (.bipush (-2), 2) by decide +kernel) (by decide)) rfl
    (sb_cons (pc2 := 14) (sx_reti (show decode cX12_gang 13 = .ok (.ireturn, 1) by decide +kernel) rfl) rfl sb_nil)))))))
  (ms_cons
  (sb_cons (pc2 := 15) (sx_aload_n (show decode cX12_gang 14 = .ok (.aload_n 0, 1) by decide +kernel) rfl) rfl
    (sb_cons (pc2 := 18) (sx_getf (show decode cX12_gang 15 = .ok (.getfield 376, 3) by decide +kernel) rfl iX12 (by decide) wd_931) rfl
    (sb_cons (pc2 := 19) (sx_iconst (show decode cX12_gang 18 = .ok (.iconst 4, 1) by decide +kernel) (by decide)) rfl
    (sb_cons (pc2 := 22) (sx_icmp_ne (show decode cX12_gang 19 = .ok (.if_icmp .ne 6, 3) by decide +kernel) (by decide)) rfl
    (sb_cons (pc2 := 24) (sx_bipush (show decode cX12_gang 22 = .ok (.bipush (-4), 2) by decide +kernel) (by decide)) rfl
    (sb_cons (pc2 := 25) (sx_reti (show decode cX12_gang 24 = .ok (.ireturn, 1) by decide +kernel) rfl) rfl sb_nil))))))
  (ms_cons
  (sb_cons (pc2 := 26) (sx_aload_n (show decode cX12_gang 25 = .ok (.aload_n 0, 1) by decide +kernel) rfl) rfl
    (sb_cons (pc2 := 29) (sx_getf (show decode cX12_gang 26 = .ok (.getfield 114, 3) by decide +kernel) rfl iX12 (by decide) wd_705) rfl
    (sb_cons (pc2 := 30) (sx_aload_n (show decode cX12_gang 29 = .ok (.aload_n 0, 1) by decide +kernel) rfl) rfl
    (sb_cons (pc2 := 33) (sx_getf (show decode cX12_gang 30 = .ok (.getfield 376, 3) by decide +kernel) rfl iX12 (by decide) wd_931) rfl
    (sb_cons (pc2 := 34) (sx_iload_n (show decode cX12_gang 33 = .ok (.iload_n 1, 1) by decide +kernel) rfl) rfl
    (sb_cons (pc2 := 35) (sx_iast (show decode cX12_gang 34 = .ok (.iastore, 1) by decide +kernel)) rfl
    (sb_cons (pc2 := 36) (sx_aload_n (show decode cX12_gang 35 = .ok (.aload_n 0, 1) by decide +kernel) rfl) rfl
    (sb_cons (pc2 := 37) (sx_dup (show decode cX12_gang 36 = .ok (.dup, 1) by decide +kernel)) rfl
    (sb_cons (pc2 := 40) (sx_getf (show decode cX12_gang 37 = .ok (.getfield 376, 3) by decide +kernel) rfl iX12 (by decide) wd_931) rfl
    (sb_cons (pc2 := 41) (sx_iconst (show decode cX12_gang 40 = .ok (.iconst 1, 1) by decide +kernel) (by decide)) rfl
    (sb_cons (pc2 := 42) (sx_iadd (show decode cX12_gang 41 = .ok (.iadd, 1) by decide +kernel)) rfl
    (sb_cons (pc2 := 45) (sx_puti (show decode cX12_gang 42 = .ok (.putfield 376, 3) by decide +kernel) rfl iX12 tyX12_ok nmX12 (by decide) wd_931 rfl (Or.inl rfl)) rfl
    (sb_cons (pc2 := 46) (sx_aload_n (show decode cX12_gang 45 = .ok (.aload_n 0, 1) by decide +kernel) rfl) rfl
    (sb_cons (pc2 := 47) (sx_iconst (show decode cX12_gang 46 = .ok (.iconst 0, 1) by decide +kernel) (by decide)) rfl
    (sb_cons (pc2 := 50) (sx_putz (show decode cX12_gang 47 = .ok (.putfield 373, 3) by decide +kernel) rfl iX12 tyX12_ok nmX12 (by decide) wd_930 rfl rfl) rfl
    (sb_cons (pc2 := 51) (sx_aload_n (show decode cX12_gang 50 = .ok (.aload_n 0, 1) by decide +kernel) rfl) rfl
    (sb_cons (pc2 := 54) (sx_getf (show decode cX12_gang 51 = .ok (.getfield 376, 3) by decide +kernel) rfl iX12 (by decide) wd_931) rfl
    (sb_cons (pc2 := 55) (sx_iconst (show decode cX12_gang 54 = .ok (.iconst 1, 1) by decide +kernel) (by decide)) rfl
    (sb_cons (pc2 := 56) (sx_isub (show decode cX12_gang 55 = .ok (.isub, 1) by decide +kernel)) rfl
    (sb_cons (pc2 := 57) (sx_reti (show decode cX12_gang 56 = .ok (.ireturn, 1) by decide +kernel) rfl) rfl sb_nil))))))))))))))))))))
  ms_nil)))
def kX12_tries (X : px_X) : px_B := [(0, [], [px_iload 2, px_iload 3, (px_i2 fun x y => x + y), px_aload 0, px_getf 12 65, px_if2 (fun x y => decide (y < x)) 11, px_retv], 11),
  (11, [true, true, true, true, false], [px_iload 1, px_aload 0, px_getf 12 42, px_if2 (fun x y => decide (¬ x = y)) 57, px_aload 0, px_iload 2, px_puti 12 65, px_push (.int 0), px_istore 4], 27),
  (27, [true, false, false, false, true], [px_iload 4, px_aload 0, px_getf 12 42, px_if2 (fun x y => decide (y ≤ x)) 56, px_aload 0, px_getf 12 67, px_iload 4, px_aload 0, px_getf 12 66, px_iload 4, px_iald 0, px_iast 0, px_iinc 4 1, px_goto 27], 56),
  (56, [false, false, false, false, false], [px_retv], 57),
  (57, [true, true, true, true, false], [px_push (.int 0), px_istore 4], 60),
  (60, [true, true, true, true, true], [px_iload 4, px_aload 0, px_getf 12 45, px_if2 (fun x y => decide (y ≤ x)) 154, px_aload 0, px_getf 12 68, px_iload 4, px_iald 0, px_aload 0, px_getf 12 43, px_iload 1, px_iald 0, px_if2 (fun x y => decide (x < y)) 148, px_aload 0, px_getf 12 68, px_iload 4, px_dup2, px_iald 0, px_aload 0, px_getf 12 43, px_iload 1, px_iald 0, (px_i2 fun x y => x - y), px_iast 0, px_aload 0, px_getf 12 66, px_iload 1, px_iload 4, px_iast 0, px_aload 0, px_iload 1, px_push (.int 1), (px_i2 fun x y => x + y), px_iload 2, px_aload 0, px_getf 12 44, px_iload 1, px_iald 0, (px_i2 fun x y => x + y), px_iload 3, px_aload 0, px_getf 12 44, px_iload 1, px_iald 0, (px_i2 fun x y => x - y), px_cV X 240 4 12, px_aload 0, px_getf 12 68, px_iload 4, px_dup2, px_iald 0, px_aload 0, px_getf 12 43, px_iload 1, px_iald 0, (px_i2 fun x y => x + y), px_iast 0], 148),
  (148, [true, true, true, true, true], [px_iinc 4 1, px_goto 60], 154),
  (154, [true, true, true, true, false], [px_aload 0, px_getf 12 66, px_iload 1, px_push (.int (-1)), px_iast 0, px_aload 0, px_iload 1, px_push (.int 1), (px_i2 fun x y => x + y), px_iload 2, px_iload 3, px_aload 0, px_getf 12 44, px_iload 1, px_iald 0, (px_i2 fun x y => x - y), px_cV X 240 4 12, px_retv], 178)]
set_option maxRecDepth 100000 in
set_option maxHeartbeats 8000000 in
theorem sX12_tries (d : Nat) (X : px_X) : px_MS d X YX12_tries (kX12_tries X) :=
  (ms_cons
  (sb_cons (pc2 := 1) (sx_iload_n (show decode cX12_tries 0 = .ok (.iload_n 2, 1) by decide +kernel) rfl) rfl
    (sb_cons (pc2 := 2) (sx_iload_n (show decode cX12_tries 1 = .ok (.iload_n 3, 1) by decide +kernel) rfl) rfl
    (sb_cons (pc2 := 3) (sx_iadd (show decode cX12_tries 2 = .ok (.iadd, 1) by decide +kernel)) rfl
    (sb_cons (pc2 := 4) (sx_aload_n (show decode cX12_tries 3 = .ok (.aload_n 0, 1) by decide +kernel) rfl) rfl
    (sb_cons (pc2 := 7) (sx_getf (show decode cX12_tries 4 = .ok (.getfield 379, 3) by decide +kernel) rfl iX12 (by decide) wd_932) rfl
    (sb_cons (pc2 := 10) (sx_icmp_gt (show decode cX12_tries 7 = .ok (.if_icmp .gt 4, 3) by decide +kernel) (by decide)) rfl
    (sb_cons (pc2 := 11) (sx_retv (show decode cX12_tries 10 = .ok (.return_, 1) by decide +kernel) rfl) rfl sb_nil)))))))
  (ms_cons
  (sb_cons (pc2 := 12) (sx_iload_n (show decode cX12_tries 11 = .ok (.iload_n 1, 1) by decide +kernel) rfl) rfl
    (sb_cons (pc2 := 13) (sx_aload_n (show decode cX12_tries 12 = .ok (.aload_n 0, 1) by decide +kernel) rfl) rfl
    (sb_cons (pc2 := 16) (sx_getf (show decode cX12_tries 13 = .ok (.getfield 370, 3) by decide +kernel) rfl iX12 (by decide) wd_929) rfl
    (sb_cons (pc2 := 19) (sx_icmp_ne (show decode cX12_tries 16 = .ok (.if_icmp .ne 41, 3) by decide +kernel) (by decide)) rfl
    (sb_cons (pc2 := 20) (sx_aload_n (show decode cX12_tries 19 = .ok (.aload_n 0, 1) by decide +kernel) rfl) rfl
    (sb_cons (pc2 := 21) (sx_iload_n (show decode cX12_tries 20 = .ok (.iload_n 2, 1) by decide +kernel) rfl) rfl
    (sb_cons (pc2 := 24) (sx_puti (show decode cX12_tries 21 = .ok (.putfield 379, 3) by decide +kernel) rfl iX12 tyX12_ok nmX12 (by decide) wd_932 rfl (Or.inl rfl)) rfl
    (sb_cons (pc2 := 25) (sx_iconst (show decode cX12_tries 24 = .ok (.iconst 0, 1) by decide +kernel) (by decide)) rfl
    (sb_cons (pc2 := 27) (sx_istore (show decode cX12_tries 25 = .ok (.istore 4, 2) by decide +kernel)) rfl sb_nil)))))))))
  (ms_cons
  (sb_cons (pc2 := 29) (sx_iload (show decode cX12_tries 27 = .ok (.iload 4, 2) by decide +kernel)) rfl
    (sb_cons (pc2 := 30) (sx_aload_n (show decode cX12_tries 29 = .ok (.aload_n 0, 1) by decide +kernel) rfl) rfl
    (sb_cons (pc2 := 33) (sx_getf (show decode cX12_tries 30 = .ok (.getfield 370, 3) by decide +kernel) rfl iX12 (by decide) wd_929) rfl
    (sb_cons (pc2 := 36) (sx_icmp_ge (show decode cX12_tries 33 = .ok (.if_icmp .ge 23, 3) by decide +kernel) (by decide)) rfl
    (sb_cons (pc2 := 37) (sx_aload_n (show decode cX12_tries 36 = .ok (.aload_n 0, 1) by decide +kernel) rfl) rfl
    (sb_cons (pc2 := 40) (sx_getf (show decode cX12_tries 37 = .ok (.getfield 138, 3) by decide +kernel) rfl iX12 (by decide) wd_713) rfl
    (sb_cons (pc2 := 42) (sx_iload (show decode cX12_tries 40 = .ok (.iload 4, 2) by decide +kernel)) rfl
    (sb_cons (pc2 := 43) (sx_aload_n (show decode cX12_tries 42 = .ok (.aload_n 0, 1) by decide +kernel) rfl) rfl
    (sb_cons (pc2 := 46) (sx_getf (show decode cX12_tries 43 = .ok (.getfield 135, 3) by decide +kernel) rfl iX12 (by decide) wd_712) rfl
    (sb_cons (pc2 := 48) (sx_iload (show decode cX12_tries 46 = .ok (.iload 4, 2) by decide +kernel)) rfl
    (sb_cons (pc2 := 49) (sx_iald (show decode cX12_tries 48 = .ok (.iaload, 1) by decide +kernel)) rfl
    (sb_cons (pc2 := 50) (sx_iast (show decode cX12_tries 49 = .ok (.iastore, 1) by decide +kernel)) rfl
    (sb_cons (pc2 := 53) (sx_iinc (show decode cX12_tries 50 = .ok (.iinc 4 1, 3) by decide +kernel) (by decide)) rfl
    (sb_cons (pc2 := 56) (px_snd_goto (show decode cX12_tries 53 = .ok (.goto (-26), 3) by decide +kernel) (by decide)) rfl sb_nil))))))))))))))
  (ms_cons
  (sb_cons (pc2 := 57) (sx_retv (show decode cX12_tries 56 = .ok (.return_, 1) by decide +kernel) rfl) rfl sb_nil)
  (ms_cons
  (sb_cons (pc2 := 58) (sx_iconst (show decode cX12_tries 57 = .ok (.iconst 0, 1) by decide +kernel) (by decide)) rfl
    (sb_cons (pc2 := 60) (sx_istore (show decode cX12_tries 58 = .ok (.istore 4, 2) by decide +kernel)) rfl sb_nil))
  (ms_cons
  (sb_cons (pc2 := 62) (sx_iload (show decode cX12_tries 60 = .ok (.iload 4, 2) by decide +kernel)) rfl
    (sb_cons (pc2 := 63) (sx_aload_n (show decode cX12_tries 62 = .ok (.aload_n 0, 1) by decide +kernel) rfl) rfl
    (sb_cons (pc2 := 66) (sx_getf (show decode cX12_tries 63 = .ok (.getfield 376, 3) by decide +kernel) rfl iX12 (by decide) wd_931) rfl
    (sb_cons (pc2 := 69) (sx_icmp_ge (show decode cX12_tries 66 = .ok (.if_icmp .ge 88, 3) by decide +kernel) (by decide)) rfl
    (sb_cons (pc2 := 70) (sx_aload_n (show decode cX12_tries 69 = .ok (.aload_n 0, 1) by decide +kernel) rfl) rfl
    (sb_cons (pc2 := 73) (sx_getf (show decode cX12_tries 70 = .ok (.getfield 141, 3) by decide +kernel) rfl iX12 (by decide) wd_714) rfl
    (sb_cons (pc2 := 75) (sx_iload (show decode cX12_tries 73 = .ok (.iload 4, 2) by decide +kernel)) rfl
    (sb_cons (pc2 := 76) (sx_iald (show decode cX12_tries 75 = .ok (.iaload, 1) by decide +kernel)) rfl
    (sb_cons (pc2 := 77) (sx_aload_n (show decode cX12_tries 76 = .ok (.aload_n 0, 1) by decide +kernel) rfl) rfl
    (sb_cons (pc2 := 80) (sx_getf (show decode cX12_tries 77 = .ok (.getfield 108, 3) by decide +kernel) rfl iX12 (by decide) wd_703) rfl
    (sb_cons (pc2 := 81) (sx_iload_n (show decode cX12_tries 80 = .ok (.iload_n 1, 1) by decide +kernel) rfl) rfl
    (sb_cons (pc2 := 82) (sx_iald (show decode cX12_tries 81 = .ok (.iaload, 1) by decide +kernel)) rfl
    (sb_cons (pc2 := 85) (sx_icmp_lt (show decode cX12_tries 82 = .ok (.if_icmp .lt 66, 3) by decide +kernel) (by decide)) rfl
    (sb_cons (pc2 := 86) (sx_aload_n (show decode cX12_tries 85 = .ok (.aload_n 0, 1) by decide +kernel) rfl) rfl
    (sb_cons (pc2 := 89) (sx_getf (show decode cX12_tries 86 = .ok (.getfield 141, 3) by decide +kernel) rfl iX12 (by decide) wd_714) rfl
    (sb_cons (pc2 := 91) (sx_iload (show decode cX12_tries 89 = .ok (.iload 4, 2) by decide +kernel)) rfl
    (sb_cons (pc2 := 92) (sx_dup2 (show decode cX12_tries 91 = .ok (.dup2, 1) by decide +kernel)) rfl
    (sb_cons (pc2 := 93) (sx_iald (show decode cX12_tries 92 = .ok (.iaload, 1) by decide +kernel)) rfl
    (sb_cons (pc2 := 94) (sx_aload_n (show decode cX12_tries 93 = .ok (.aload_n 0, 1) by decide +kernel) rfl) rfl
    (sb_cons (pc2 := 97) (sx_getf (show decode cX12_tries 94 = .ok (.getfield 108, 3) by decide +kernel) rfl iX12 (by decide) wd_703) rfl
    (sb_cons (pc2 := 98) (sx_iload_n (show decode cX12_tries 97 = .ok (.iload_n 1, 1) by decide +kernel) rfl) rfl
    (sb_cons (pc2 := 99) (sx_iald (show decode cX12_tries 98 = .ok (.iaload, 1) by decide +kernel)) rfl
    (sb_cons (pc2 := 100) (sx_isub (show decode cX12_tries 99 = .ok (.isub, 1) by decide +kernel)) rfl
    (sb_cons (pc2 := 101) (sx_iast (show decode cX12_tries 100 = .ok (.iastore, 1) by decide +kernel)) rfl
    (sb_cons (pc2 := 102) (sx_aload_n (show decode cX12_tries 101 = .ok (.aload_n 0, 1) by decide +kernel) rfl) rfl
    (sb_cons (pc2 := 105) (sx_getf (show decode cX12_tries 102 = .ok (.getfield 135, 3) by decide +kernel) rfl iX12 (by decide) wd_712) rfl
    (sb_cons (pc2 := 106) (sx_iload_n (show decode cX12_tries 105 = .ok (.iload_n 1, 1) by decide +kernel) rfl) rfl
    (sb_cons (pc2 := 108) (sx_iload (show decode cX12_tries 106 = .ok (.iload 4, 2) by decide +kernel)) rfl
    (sb_cons (pc2 := 109) (sx_iast (show decode cX12_tries 108 = .ok (.iastore, 1) by decide +kernel)) rfl
    (sb_cons (pc2 := 110) (sx_aload_n (show decode cX12_tries 109 = .ok (.aload_n 0, 1) by decide +kernel) rfl) rfl
    (sb_cons (pc2 := 111) (sx_iload_n (show decode cX12_tries 110 = .ok (.iload_n 1, 1) by decide +kernel) rfl) rfl
    (sb_cons (pc2 := 112) (sx_iconst (show decode cX12_tries 111 = .ok (.iconst 1, 1) by decide +kernel) (by decide)) rfl
    (sb_cons (pc2 := 113) (sx_iadd (show decode cX12_tries 112 = .ok (.iadd, 1) by decide +kernel)) rfl
    (sb_cons (pc2 := 114) (sx_iload_n (show decode cX12_tries 113 = .ok (.iload_n 2, 1) by decide +kernel) rfl) rfl
    (sb_cons (pc2 := 115) (sx_aload_n (show decode cX12_tries 114 = .ok (.aload_n 0, 1) by decide +kernel) rfl) rfl
    (sb_cons (pc2 := 118) (sx_getf (show decode cX12_tries 115 = .ok (.getfield 111, 3) by decide +kernel) rfl iX12 (by decide) wd_704) rfl
    (sb_cons (pc2 := 119) (sx_iload_n (show decode cX12_tries 118 = .ok (.iload_n 1, 1) by decide +kernel) rfl) rfl
    (sb_cons (pc2 := 120) (sx_iald (show decode cX12_tries 119 = .ok (.iaload, 1) by decide +kernel)) rfl
    (sb_cons (pc2 := 121) (sx_iadd (show decode cX12_tries 120 = .ok (.iadd, 1) by decide +kernel)) rfl
    (sb_cons (pc2 := 122) (sx_iload_n (show decode cX12_tries 121 = .ok (.iload_n 3, 1) by decide +kernel) rfl) rfl
    (sb_cons (pc2 := 123) (sx_aload_n (show decode cX12_tries 122 = .ok (.aload_n 0, 1) by decide +kernel) rfl) rfl
    (sb_cons (pc2 := 126) (sx_getf (show decode cX12_tries 123 = .ok (.getfield 111, 3) by decide +kernel) rfl iX12 (by decide) wd_704) rfl
    (sb_cons (pc2 := 127) (sx_iload_n (show decode cX12_tries 126 = .ok (.iload_n 1, 1) by decide +kernel) rfl) rfl
    (sb_cons (pc2 := 128) (sx_iald (show decode cX12_tries 127 = .ok (.iaload, 1) by decide +kernel)) rfl
    (sb_cons (pc2 := 129) (sx_isub (show decode cX12_tries 128 = .ok (.isub, 1) by decide +kernel)) rfl
    (sb_cons (pc2 := 132) (sx_cV (Y' := YX12_tries) (q := (RX12, TX12, 69)) rfl (show decode cX12_tries 129 = .ok (.invokevirtual 382, 3) by decide +kernel) rfl rfl (px_w4 wd_934 wd_935 wd_936 wd_719) wd_933 ⟨by decide, by decide, by decide +kernel⟩ (by decide)) rfl
    (sb_cons (pc2 := 133) (sx_aload_n (show decode cX12_tries 132 = .ok (.aload_n 0, 1) by decide +kernel) rfl) rfl
    (sb_cons (pc2 := 136) (sx_getf (show decode cX12_tries 133 = .ok (.getfield 141, 3) by decide +kernel) rfl iX12 (by decide) wd_714) rfl
    (sb_cons (pc2 := 138) (sx_iload (show decode cX12_tries 136 = .ok (.iload 4, 2) by decide +kernel)) rfl
    (sb_cons (pc2 := 139) (sx_dup2 (show decode cX12_tries 138 = .ok (.dup2, 1) by decide +kernel)) rfl
    (sb_cons (pc2 := 140) (sx_iald (show decode cX12_tries 139 = .ok (.iaload, 1) by decide +kernel)) rfl
    (sb_cons (pc2 := 141) (sx_aload_n (show decode cX12_tries 140 = .ok (.aload_n 0, 1) by decide +kernel) rfl) rfl
    (sb_cons (pc2 := 144) (sx_getf (show decode cX12_tries 141 = .ok (.getfield 108, 3) by decide +kernel) rfl iX12 (by decide) wd_703) rfl
    (sb_cons (pc2 := 145) (sx_iload_n (show decode cX12_tries 144 = .ok (.iload_n 1, 1) by decide +kernel) rfl) rfl
    (sb_cons (pc2 := 146) (sx_iald (show decode cX12_tries 145 = .ok (.iaload, 1) by decide +kernel)) rfl
    (sb_cons (pc2 := 147) (sx_iadd (show decode cX12_tries 146 = .ok (.iadd, 1) by decide +kernel)) rfl
    (sb_cons (pc2 := 148) (sx_iast (show decode cX12_tries 147 = .ok (.iastore, 1) by decide +kernel)) rfl sb_nil)))))))))))))))))))))))))))))))))))))))))))))))))))))))))
  (ms_cons
  (sb_cons (pc2 := 151) (sx_iinc (show decode cX12_tries 148 = .ok (.iinc 4 1, 3) by decide +kernel) (by decide)) rfl
    (sb_cons (pc2 := 154) (px_snd_goto (show decode cX12_tries 151 = .ok (.goto (-91), 3) by decide +kernel) (by decide)) rfl sb_nil))
  (ms_cons
  (sb_cons (pc2 := 155) (sx_aload_n (show decode cX12_tries 154 = .ok (.aload_n 0, 1) by decide +kernel) rfl) rfl
    (sb_cons (pc2 := 158) (sx_getf (show decode cX12_tries 155 = .ok (.getfield 135, 3) by decide +kernel) rfl iX12 (by decide) wd_712) rfl
    (sb_cons (pc2 := 159) (sx_iload_n (show decode cX12_tries 158 = .ok (.iload_n 1, 1) by decide +kernel) rfl) rfl
    (sb_cons (pc2 := 160) (sx_iconst (show decode cX12_tries 159 = .ok (.iconst (-1), 1) by decide +kernel) (by decide)) rfl
    (sb_cons (pc2 := 161) (sx_iast (show decode cX12_tries 160 = .ok (.iastore, 1) by decide +kernel)) rfl
    (sb_cons (pc2 := 162) (sx_aload_n (show decode cX12_tries 161 = .ok (.aload_n 0, 1) by decide +kernel) rfl) rfl
    (sb_cons (pc2 := 163) (sx_iload_n (show decode cX12_tries 162 = .ok (.iload_n 1, 1) by decide +kernel) rfl) rfl
    (sb_cons (pc2 := 164) (sx_iconst (show decode cX12_tries 163 = .ok (.iconst 1, 1) by decide +kernel) (by decide)) rfl
    (sb_cons (pc2 := 165) (sx_iadd (show decode cX12_tries 164 = .ok (.iadd, 1) by decide +kernel)) rfl
    (sb_cons (pc2 := 166) (sx_iload_n (show decode cX12_tries 165 = .ok (.iload_n 2, 1) by decide +kernel) rfl) rfl
    (sb_cons (pc2 := 167) (sx_iload_n (show decode cX12_tries 166 = .ok (.iload_n 3, 1) by decide +kernel) rfl) rfl
    (sb_cons (pc2 := 168) (sx_aload_n (show decode cX12_tries 167 = .ok (.aload_n 0, 1) by decide +kernel) rfl) rfl
    (sb_cons (pc2 := 171) (sx_getf (show decode cX12_tries 168 = .ok (.getfield 111, 3) by decide +kernel) rfl iX12 (by decide) wd_704) rfl
    (sb_cons (pc2 := 172) (sx_iload_n (show decode cX12_tries 171 = .ok (.iload_n 1, 1) by decide +kernel) rfl) rfl
    (sb_cons (pc2 := 173) (sx_iald (show decode cX12_tries 172 = .ok (.iaload, 1) by decide +kernel)) rfl
    (sb_cons (pc2 := 174) (sx_isub (show decode cX12_tries 173 = .ok (.isub, 1) by decide +kernel)) rfl
    (sb_cons (pc2 := 177) (sx_cV (Y' := YX12_tries) (q := (RX12, TX12, 69)) rfl (show decode cX12_tries 174 = .ok (.invokevirtual 382, 3) by decide +kernel) rfl rfl (px_w4 wd_934 wd_935 wd_936 wd_719) wd_933 ⟨by decide, by decide, by decide +kernel⟩ (by decide)) rfl
    (sb_cons (pc2 := 178) (sx_retv (show decode cX12_tries 177 = .ok (.return_, 1) by decide +kernel) rfl) rfl sb_nil))))))))))))))))))
  ms_nil))))))))
def kX12_plans (X : px_X) : px_B := [(0, [], [px_aload 0, px_getf 12 47, px_if1 (fun x => decide (x = 0)) 8, px_retv], 8),
  (8, [true, false, false], [px_aload 0, px_push (.int 1), px_putz 12 47, px_aload 0, px_push (.int (-1)), px_puti 12 65, px_push (.int 0), px_istore 1, px_push (.int 0), px_istore 2], 22),
  (22, [true, true, true], [px_iload 2, px_aload 0, px_getf 12 42, px_if2 (fun x y => decide (y ≤ x)) 45, px_iload 1, px_aload 0, px_getf 12 44, px_iload 2, px_iald 0, (px_i2 fun x y => x + y), px_istore 1, px_iinc 2 1, px_goto 22], 45),
  (45, [true, true, false], [px_push (.int 0), px_istore 2], 47),
  (47, [true, true, true], [px_iload 2, px_aload 0, px_getf 12 45, px_if2 (fun x y => decide (y ≤ x)) 73, px_aload 0, px_getf 12 68, px_iload 2, px_aload 0, px_getf 12 46, px_iload 2, px_iald 0, px_iast 0, px_iinc 2 1, px_goto 47], 73),
  (73, [true, true, false], [px_aload 0, px_push (.int 0), px_push (.int 0), px_iload 1, px_cV X 240 4 12, px_retv], 81)]
set_option maxRecDepth 100000 in
set_option maxHeartbeats 8000000 in
theorem sX12_plans (d : Nat) (X : px_X) : px_MS d X YX12_plans (kX12_plans X) :=
  (ms_cons
  (sb_cons (pc2 := 1) (sx_aload_n (show decode cX12_plans 0 = .ok (.aload_n 0, 1) by decide +kernel) rfl) rfl
    (sb_cons (pc2 := 4) (sx_getf (show decode cX12_plans 1 = .ok (.getfield 373, 3) by decide +kernel) rfl iX12 (by decide) wd_930) rfl
    (sb_cons (pc2 := 7) (sx_if_eq (show decode cX12_plans 4 = .ok (.ifCond .eq 4, 3) by decide +kernel) (by decide)) rfl
    (sb_cons (pc2 := 8) (sx_retv (show decode cX12_plans 7 = .ok (.return_, 1) by decide +kernel) rfl) rfl sb_nil))))
  (ms_cons
  (sb_cons (pc2 := 9) (sx_aload_n (show decode cX12_plans 8 = .ok (.aload_n 0, 1) by decide +kernel) rfl) rfl
    (sb_cons (pc2 := 10) (sx_iconst (show decode cX12_plans 9 = .ok (.iconst 1, 1) by decide +kernel) (by decide)) rfl
    (sb_cons (pc2 := 13) (sx_putz (show decode cX12_plans 10 = .ok (.putfield 373, 3) by decide +kernel) rfl iX12 tyX12_ok nmX12 (by decide) wd_930 rfl rfl) rfl
    (sb_cons (pc2 := 14) (sx_aload_n (show decode cX12_plans 13 = .ok (.aload_n 0, 1) by decide +kernel) rfl) rfl
    (sb_cons (pc2 := 15) (sx_iconst (show decode cX12_plans 14 = .ok (.iconst (-1), 1) by decide +kernel) (by decide)) rfl
    (sb_cons (pc2 := 18) (sx_puti (show decode cX12_plans 15 = .ok (.putfield 379, 3) by decide +kernel) rfl iX12 tyX12_ok nmX12 (by decide) wd_932 rfl (Or.inl rfl)) rfl
    (sb_cons (pc2 := 19) (sx_iconst (show decode cX12_plans 18 = .ok (.iconst 0, 1) by decide +kernel) (by decide)) rfl
    (sb_cons (pc2 := 20) (sx_istore_n (show decode cX12_plans 19 = .ok (.istore_n 1, 1) by decide +kernel) rfl) rfl
    (sb_cons (pc2 := 21) (sx_iconst (show decode cX12_plans 20 = .ok (.iconst 0, 1) by decide +kernel) (by decide)) rfl
    (sb_cons (pc2 := 22) (sx_istore_n (show decode cX12_plans 21 = .ok (.istore_n 2, 1) by decide +kernel) rfl) rfl sb_nil))))))))))
  (ms_cons
  (sb_cons (pc2 := 23) (sx_iload_n (show decode cX12_plans 22 = .ok (.iload_n 2, 1) by decide +kernel) rfl) rfl
    (sb_cons (pc2 := 24) (sx_aload_n (show decode cX12_plans 23 = .ok (.aload_n 0, 1) by decide +kernel) rfl) rfl
    (sb_cons (pc2 := 27) (sx_getf (show decode cX12_plans 24 = .ok (.getfield 370, 3) by decide +kernel) rfl iX12 (by decide) wd_929) rfl
    (sb_cons (pc2 := 30) (sx_icmp_ge (show decode cX12_plans 27 = .ok (.if_icmp .ge 18, 3) by decide +kernel) (by decide)) rfl
    (sb_cons (pc2 := 31) (sx_iload_n (show decode cX12_plans 30 = .ok (.iload_n 1, 1) by decide +kernel) rfl) rfl
    (sb_cons (pc2 := 32) (sx_aload_n (show decode cX12_plans 31 = .ok (.aload_n 0, 1) by decide +kernel) rfl) rfl
    (sb_cons (pc2 := 35) (sx_getf (show decode cX12_plans 32 = .ok (.getfield 111, 3) by decide +kernel) rfl iX12 (by decide) wd_704) rfl
    (sb_cons (pc2 := 36) (sx_iload_n (show decode cX12_plans 35 = .ok (.iload_n 2, 1) by decide +kernel) rfl) rfl
    (sb_cons (pc2 := 37) (sx_iald (show decode cX12_plans 36 = .ok (.iaload, 1) by decide +kernel)) rfl
    (sb_cons (pc2 := 38) (sx_iadd (show decode cX12_plans 37 = .ok (.iadd, 1) by decide +kernel)) rfl
    (sb_cons (pc2 := 39) (sx_istore_n (show decode cX12_plans 38 = .ok (.istore_n 1, 1) by decide +kernel) rfl) rfl
    (sb_cons (pc2 := 42) (sx_iinc (show decode cX12_plans 39 = .ok (.iinc 2 1, 3) by decide +kernel) (by decide)) rfl
    (sb_cons (pc2 := 45) (px_snd_goto (show decode cX12_plans 42 = .ok (.goto (-20), 3) by decide +kernel) (by decide)) rfl sb_nil)))))))))))))
  (ms_cons
  (sb_cons (pc2 := 46) (sx_iconst (show decode cX12_plans 45 = .ok (.iconst 0, 1) by decide +kernel) (by decide)) rfl
    (sb_cons (pc2 := 47) (sx_istore_n (show decode cX12_plans 46 = .ok (.istore_n 2, 1) by decide +kernel) rfl) rfl sb_nil))
  (ms_cons
  (sb_cons (pc2 := 48) (sx_iload_n (show decode cX12_plans 47 = .ok (.iload_n 2, 1) by decide +kernel) rfl) rfl
    (sb_cons (pc2 := 49) (sx_aload_n (show decode cX12_plans 48 = .ok (.aload_n 0, 1) by decide +kernel) rfl) rfl
    (sb_cons (pc2 := 52) (sx_getf (show decode cX12_plans 49 = .ok (.getfield 376, 3) by decide +kernel) rfl iX12 (by decide) wd_931) rfl
    (sb_cons (pc2 := 55) (sx_icmp_ge (show decode cX12_plans 52 = .ok (.if_icmp .ge 21, 3) by decide +kernel) (by decide)) rfl
    (sb_cons (pc2 := 56) (sx_aload_n (show decode cX12_plans 55 = .ok (.aload_n 0, 1) by decide +kernel) rfl) rfl
    (sb_cons (pc2 := 59) (sx_getf (show decode cX12_plans 56 = .ok (.getfield 141, 3) by decide +kernel) rfl iX12 (by decide) wd_714) rfl
    (sb_cons (pc2 := 60) (sx_iload_n (show decode cX12_plans 59 = .ok (.iload_n 2, 1) by decide +kernel) rfl) rfl
    (sb_cons (pc2 := 61) (sx_aload_n (show decode cX12_plans 60 = .ok (.aload_n 0, 1) by decide +kernel) rfl) rfl
    (sb_cons (pc2 := 64) (sx_getf (show decode cX12_plans 61 = .ok (.getfield 114, 3) by decide +kernel) rfl iX12 (by decide) wd_705) rfl
    (sb_cons (pc2 := 65) (sx_iload_n (show decode cX12_plans 64 = .ok (.iload_n 2, 1) by decide +kernel) rfl) rfl
    (sb_cons (pc2 := 66) (sx_iald (show decode cX12_plans 65 = .ok (.iaload, 1) by decide +kernel)) rfl
    (sb_cons (pc2 := 67) (sx_iast (show decode cX12_plans 66 = .ok (.iastore, 1) by decide +kernel)) rfl
    (sb_cons (pc2 := 70) (sx_iinc (show decode cX12_plans 67 = .ok (.iinc 2 1, 3) by decide +kernel) (by decide)) rfl
    (sb_cons (pc2 := 73) (px_snd_goto (show decode cX12_plans 70 = .ok (.goto (-23), 3) by decide +kernel) (by decide)) rfl sb_nil))))))))))))))
  (ms_cons
  (sb_cons (pc2 := 74) (sx_aload_n (show decode cX12_plans 73 = .ok (.aload_n 0, 1) by decide +kernel) rfl) rfl
    (sb_cons (pc2 := 75) (sx_iconst (show decode cX12_plans 74 = .ok (.iconst 0, 1) by decide +kernel) (by decide)) rfl
    (sb_cons (pc2 := 76) (sx_iconst (show decode cX12_plans 75 = .ok (.iconst 0, 1) by decide +kernel) (by decide)) rfl
    (sb_cons (pc2 := 77) (sx_iload_n (show decode cX12_plans 76 = .ok (.iload_n 1, 1) by decide +kernel) rfl) rfl
    (sb_cons (pc2 := 80) (sx_cV (Y' := YX12_tries) (q := (RX12, TX12, 69)) rfl (show decode cX12_plans 77 = .ok (.invokevirtual 382, 3) by decide +kernel) rfl rfl (px_w4 wd_934 wd_935 wd_936 wd_719) wd_933 ⟨by decide, by decide, by decide +kernel⟩ (by decide)) rfl
    (sb_cons (pc2 := 81) (sx_retv (show decode cX12_plans 80 = .ok (.return_, 1) by decide +kernel) rfl) rfl sb_nil))))))
  ms_nil))))))
def kX12_plan (X : px_X) : px_B := [(0, [], [px_aload 0, px_cV X 241 1 12, px_aload 0, px_getf 12 65, px_reti], 9)]
set_option maxRecDepth 100000 in
set_option maxHeartbeats 8000000 in
theorem sX12_plan (d : Nat) (X : px_X) : px_MS d X YX12_plan (kX12_plan X) :=
  (ms_cons
  (sb_cons (pc2 := 1) (sx_aload_n (show decode cX12_plan 0 = .ok (.aload_n 0, 1) by decide +kernel) rfl) rfl
    (sb_cons (pc2 := 4) (sx_cV (Y' := YX12_plans) (q := (RX12, TX12, 69)) rfl (show decode cX12_plan 1 = .ok (.invokevirtual 386, 3) by decide +kernel) rfl rfl (px_w4 wd_938 wd_939 wd_940 wd_719) wd_937 ⟨by decide, by decide, by decide +kernel⟩ (by decide)) rfl
    (sb_cons (pc2 := 5) (sx_aload_n (show decode cX12_plan 4 = .ok (.aload_n 0, 1) by decide +kernel) rfl) rfl
    (sb_cons (pc2 := 8) (sx_getf (show decode cX12_plan 5 = .ok (.getfield 379, 3) by decide +kernel) rfl iX12 (by decide) wd_932) rfl
    (sb_cons (pc2 := 9) (sx_reti (show decode cX12_plan 8 = .ok (.ireturn, 1) by decide +kernel) rfl) rfl sb_nil)))))
  ms_nil)
def kX12_planned (X : px_X) : px_B := [(0, [], [px_iload 1, px_push (.int 0), px_aload 0, px_getf 12 42, px_push (.int 1), (px_i2 fun x y => x - y), px_cS X 165 3, px_if1 (fun x => decide (¬ x = 0)) 17, px_push (.int (-2)), px_reti], 17),
  (17, [true, true], [px_aload 0, px_cV X 241 1 12, px_aload 0, px_getf 12 67, px_iload 1, px_iald 0, px_reti], 28)]
set_option maxRecDepth 100000 in
set_option maxHeartbeats 8000000 in
theorem sX12_planned (d : Nat) (X : px_X) : px_MS d X YX12_planned (kX12_planned X) :=
  (ms_cons
  (sb_cons (pc2 := 1) (sx_iload_n (show decode cX12_planned 0 = .ok (.iload_n 1, 1) by decide +kernel) rfl) rfl
    (sb_cons (pc2 := 2) (sx_iconst (show decode cX12_planned 1 = .ok (.iconst 0, 1) by decide +kernel) (by decide)) rfl
    (sb_cons (pc2 := 3) (sx_aload_n (show decode cX12_planned 2 = .ok (.aload_n 0, 1) by decide +kernel) rfl) rfl
    (sb_cons (pc2 := 6) (sx_getf (show decode cX12_planned 3 = .ok (.getfield 370, 3) by decide +kernel) rfl iX12 (by decide) wd_929) rfl
    (sb_cons (pc2 := 7) (sx_iconst (show decode cX12_planned 6 = .ok (.iconst 1, 1) by decide +kernel) (by decide)) rfl
    (sb_cons (pc2 := 8) (sx_isub (show decode cX12_planned 7 = .ok (.isub, 1) by decide +kernel)) rfl
    (sb_cons (pc2 := 11) (sx_cS (Y' := YX12_in) rfl (show decode cX12_planned 8 = .ok (.invokestatic 147, 3) by decide +kernel) rfl (px_w3 wd_717 wd_718 wd_719) wd_716 ⟨by decide, by decide, by decide +kernel⟩ (by decide)) rfl
    (sb_cons (pc2 := 14) (sx_if_ne (show decode cX12_planned 11 = .ok (.ifCond .ne 6, 3) by decide +kernel) (by decide)) rfl
    (sb_cons (pc2 := 16) (sx_bipush (show decode cX12_planned 14 = .ok (.bipush (-2), 2) by decide +kernel) (by decide)) rfl
    (sb_cons (pc2 := 17) (sx_reti (show decode cX12_planned 16 = .ok (.ireturn, 1) by decide +kernel) rfl) rfl sb_nil))))))))))
  (ms_cons
  (sb_cons (pc2 := 18) (sx_aload_n (show decode cX12_planned 17 = .ok (.aload_n 0, 1) by decide +kernel) rfl) rfl
    (sb_cons (pc2 := 21) (sx_cV (Y' := YX12_plans) (q := (RX12, TX12, 69)) rfl (show decode cX12_planned 18 = .ok (.invokevirtual 386, 3) by decide +kernel) rfl rfl (px_w4 wd_938 wd_939 wd_940 wd_719) wd_937 ⟨by decide, by decide, by decide +kernel⟩ (by decide)) rfl
    (sb_cons (pc2 := 22) (sx_aload_n (show decode cX12_planned 21 = .ok (.aload_n 0, 1) by decide +kernel) rfl) rfl
    (sb_cons (pc2 := 25) (sx_getf (show decode cX12_planned 22 = .ok (.getfield 138, 3) by decide +kernel) rfl iX12 (by decide) wd_713) rfl
    (sb_cons (pc2 := 26) (sx_iload_n (show decode cX12_planned 25 = .ok (.iload_n 1, 1) by decide +kernel) rfl) rfl
    (sb_cons (pc2 := 27) (sx_iald (show decode cX12_planned 26 = .ok (.iaload, 1) by decide +kernel)) rfl
    (sb_cons (pc2 := 28) (sx_reti (show decode cX12_planned 27 = .ok (.ireturn, 1) by decide +kernel) rfl) rfl sb_nil)))))))
  ms_nil))
def kX12_hatches (X : px_X) : px_B := [(0, [], [px_iload 1, px_push (.int 0), px_push (.int 30), px_cS X 165 3, px_if1 (fun x => decide (x = 0)) 16, px_iload 1, px_push (.int 2), (px_i2d fun x y => x - x / y * y), px_if1 (fun x => decide (x = 0)) 19], 16),
  (16, [false, false, false], [px_push (.int (-2)), px_reti], 19),
  (19, [true, true, false], [px_aload 0, px_getf 12 48, px_istore 2, px_aload 0, px_iload 1, px_puti 12 48, px_iload 2, px_reti], 31)]
set_option maxRecDepth 100000 in
set_option maxHeartbeats 8000000 in
theorem sX12_hatches (d : Nat) (X : px_X) : px_MS d X YX12_hatches (kX12_hatches X) :=
  (ms_cons
  (sb_cons (pc2 := 1) (sx_iload_n (show decode cX12_hatches 0 = .ok (.iload_n 1, 1) by decide +kernel) rfl) rfl
    (sb_cons (pc2 := 2) (sx_iconst (show decode cX12_hatches 1 = .ok (.iconst 0, 1) by decide +kernel) (by decide)) rfl
    (sb_cons (pc2 := 4) (sx_bipush (show decode cX12_hatches 2 = .ok (.bipush 30, 2) by decide +kernel) (by decide)) rfl
    (sb_cons (pc2 := 7) (sx_cS (Y' := YX12_in) rfl (show decode cX12_hatches 4 = .ok (.invokestatic 147, 3) by decide +kernel) rfl (px_w3 wd_717 wd_718 wd_719) wd_716 ⟨by decide, by decide, by decide +kernel⟩ (by decide)) rfl
    (sb_cons (pc2 := 10) (sx_if_eq (show decode cX12_hatches 7 = .ok (.ifCond .eq 9, 3) by decide +kernel) (by decide)) rfl
    (sb_cons (pc2 := 11) (sx_iload_n (show decode cX12_hatches 10 = .ok (.iload_n 1, 1) by decide +kernel) rfl) rfl
    (sb_cons (pc2 := 12) (sx_iconst (show decode cX12_hatches 11 = .ok (.iconst 2, 1) by decide +kernel) (by decide)) rfl
    (sb_cons (pc2 := 13) (sx_irem (show decode cX12_hatches 12 = .ok (.irem, 1) by decide +kernel)) rfl
    (sb_cons (pc2 := 16) (sx_if_eq (show decode cX12_hatches 13 = .ok (.ifCond .eq 6, 3) by decide +kernel) (by decide)) rfl sb_nil)))))))))
  (ms_cons
  (sb_cons (pc2 := 18) (sx_bipush (show decode cX12_hatches 16 = .ok (.bipush (-2), 2) by decide +kernel) (by decide)) rfl
    (sb_cons (pc2 := 19) (sx_reti (show decode cX12_hatches 18 = .ok (.ireturn, 1) by decide +kernel) rfl) rfl sb_nil))
  (ms_cons
  (sb_cons (pc2 := 20) (sx_aload_n (show decode cX12_hatches 19 = .ok (.aload_n 0, 1) by decide +kernel) rfl) rfl
    (sb_cons (pc2 := 23) (sx_getf (show decode cX12_hatches 20 = .ok (.getfield 389, 3) by decide +kernel) rfl iX12 (by decide) wd_941) rfl
    (sb_cons (pc2 := 24) (sx_istore_n (show decode cX12_hatches 23 = .ok (.istore_n 2, 1) by decide +kernel) rfl) rfl
    (sb_cons (pc2 := 25) (sx_aload_n (show decode cX12_hatches 24 = .ok (.aload_n 0, 1) by decide +kernel) rfl) rfl
    (sb_cons (pc2 := 26) (sx_iload_n (show decode cX12_hatches 25 = .ok (.iload_n 1, 1) by decide +kernel) rfl) rfl
    (sb_cons (pc2 := 29) (sx_puti (show decode cX12_hatches 26 = .ok (.putfield 389, 3) by decide +kernel) rfl iX12 tyX12_ok nmX12 (by decide) wd_941 rfl (Or.inl rfl)) rfl
    (sb_cons (pc2 := 30) (sx_iload_n (show decode cX12_hatches 29 = .ok (.iload_n 2, 1) by decide +kernel) rfl) rfl
    (sb_cons (pc2 := 31) (sx_reti (show decode cX12_hatches 30 = .ok (.ireturn, 1) by decide +kernel) rfl) rfl sb_nil))))))))
  ms_nil)))
def kX12_roll (X : px_X) : px_B := [(0, [], [px_iload 1, px_push (.int (-9)), px_push (.int 9), px_cS X 165 3, px_if1 (fun x => decide (¬ x = 0)) 14, px_push (.int (-2)), px_reti], 14),
  (14, [true, true, false], [px_aload 0, px_getf 12 49, px_istore 2, px_aload 0, px_iload 1, px_puti 12 49, px_iload 2, px_reti], 26)]
set_option maxRecDepth 100000 in
set_option maxHeartbeats 8000000 in
theorem sX12_roll (d : Nat) (X : px_X) : px_MS d X YX12_roll (kX12_roll X) :=
  (ms_cons
  (sb_cons (pc2 := 1) (sx_iload_n (show decode cX12_roll 0 = .ok (.iload_n 1, 1) by decide +kernel) rfl) rfl
    (sb_cons (pc2 := 3) (sx_bipush (show decode cX12_roll 1 = .ok (.bipush (-9), 2) by decide +kernel) (by decide)) rfl
    (sb_cons (pc2 := 5) (sx_bipush (show decode cX12_roll 3 = .ok (.bipush 9, 2) by decide +kernel) (by decide)) rfl
    (sb_cons (pc2 := 8) (sx_cS (Y' := YX12_in) rfl (show decode cX12_roll 5 = .ok (.invokestatic 147, 3) by decide +kernel) rfl (px_w3 wd_717 wd_718 wd_719) wd_716 ⟨by decide, by decide, by decide +kernel⟩ (by decide)) rfl
    (sb_cons (pc2 := 11) (sx_if_ne (show decode cX12_roll 8 = .ok (.ifCond .ne 6, 3) by decide +kernel) (by decide)) rfl
    (sb_cons (pc2 := 13) (sx_bipush (show decode cX12_roll 11 = .ok (.bipush (-2), 2) by decide +kernel) (by decide)) rfl
    (sb_cons (pc2 := 14) (sx_reti (show decode cX12_roll 13 = .ok (.ireturn, 1) by decide +kernel) rfl) rfl sb_nil)))))))
  (ms_cons
  (sb_cons (pc2 := 15) (sx_aload_n (show decode cX12_roll 14 = .ok (.aload_n 0, 1) by decide +kernel) rfl) rfl
    (sb_cons (pc2 := 18) (sx_getf (show decode cX12_roll 15 = .ok (.getfield 392, 3) by decide +kernel) rfl iX12 (by decide) wd_942) rfl
    (sb_cons (pc2 := 19) (sx_istore_n (show decode cX12_roll 18 = .ok (.istore_n 2, 1) by decide +kernel) rfl) rfl
    (sb_cons (pc2 := 20) (sx_aload_n (show decode cX12_roll 19 = .ok (.aload_n 0, 1) by decide +kernel) rfl) rfl
    (sb_cons (pc2 := 21) (sx_iload_n (show decode cX12_roll 20 = .ok (.iload_n 1, 1) by decide +kernel) rfl) rfl
    (sb_cons (pc2 := 24) (sx_puti (show decode cX12_roll 21 = .ok (.putfield 392, 3) by decide +kernel) rfl iX12 tyX12_ok nmX12 (by decide) wd_942 rfl (Or.inl rfl)) rfl
    (sb_cons (pc2 := 25) (sx_iload_n (show decode cX12_roll 24 = .ok (.iload_n 2, 1) by decide +kernel) rfl) rfl
    (sb_cons (pc2 := 26) (sx_reti (show decode cX12_roll 25 = .ok (.ireturn, 1) by decide +kernel) rfl) rfl sb_nil))))))))
  ms_nil))
def kX12_hasStood (X : px_X) : px_B := [(0, [], [px_iload 2, px_istore 4, px_push (.int 0), px_istore 5], 6),
  (6, [true, true, false, true, true, true], [px_iload 4, px_if1 (fun x => decide (x ≤ 0)) 33, px_aload 0, px_getf 12 48, px_iload 4, (px_i2 fun x y => x >>> (y &&& 31)), px_push (.int 1), (px_i2 fun x y => x &&& y), px_push (.int 1), px_if2 (fun x y => decide (¬ x = y)) 33, px_iinc 4 (-1), px_iinc 5 1, px_goto 6], 33),
  (33, [true, true, false, true, false, true], [px_iload 3, px_iload 5, px_aload 0, px_getf 12 49, (px_i2 fun x y => x * y), (px_i2 fun x y => x + y), px_aload 0, px_getf 12 15, px_iload 1, px_iald 0, px_push (.int 10), (px_i2d fun x y => x - x / y * y), px_if2 (fun x y => decide (¬ x = y)) 79, px_iload 5, px_push (.int 3), px_if2 (fun x y => decide (x ≤ y)) 64, px_push (.int 3), px_goto 66], 64),
  (64, [true, true, false, false, false, true], [px_iload 5], 66),
  (66, [true, true, false, false, false, false], [px_aload 0, px_getf 12 16, px_iload 1, px_iald 0, px_if2 (fun x y => decide (¬ x = y)) 79, px_push (.int 1), px_goto 80], 79),
  (79, [false, false, false, false, false, false], [px_push (.int 0)], 80),
  (80, [false, false, false, false, false, false], [px_retz], 81)]
set_option maxRecDepth 100000 in
set_option maxHeartbeats 8000000 in
theorem sX12_hasStood (d : Nat) (X : px_X) : px_MS d X YX12_hasStood (kX12_hasStood X) :=
  (ms_cons
  (sb_cons (pc2 := 1) (sx_iload_n (show decode cX12_hasStood 0 = .ok (.iload_n 2, 1) by decide +kernel) rfl) rfl
    (sb_cons (pc2 := 3) (sx_istore (show decode cX12_hasStood 1 = .ok (.istore 4, 2) by decide +kernel)) rfl
    (sb_cons (pc2 := 4) (sx_iconst (show decode cX12_hasStood 3 = .ok (.iconst 0, 1) by decide +kernel) (by decide)) rfl
    (sb_cons (pc2 := 6) (sx_istore (show decode cX12_hasStood 4 = .ok (.istore 5, 2) by decide +kernel)) rfl sb_nil))))
  (ms_cons
  (sb_cons (pc2 := 8) (sx_iload (show decode cX12_hasStood 6 = .ok (.iload 4, 2) by decide +kernel)) rfl
    (sb_cons (pc2 := 11) (sx_if_le (show decode cX12_hasStood 8 = .ok (.ifCond .le 25, 3) by decide +kernel) (by decide)) rfl
    (sb_cons (pc2 := 12) (sx_aload_n (show decode cX12_hasStood 11 = .ok (.aload_n 0, 1) by decide +kernel) rfl) rfl
    (sb_cons (pc2 := 15) (sx_getf (show decode cX12_hasStood 12 = .ok (.getfield 389, 3) by decide +kernel) rfl iX12 (by decide) wd_941) rfl
    (sb_cons (pc2 := 17) (sx_iload (show decode cX12_hasStood 15 = .ok (.iload 4, 2) by decide +kernel)) rfl
    (sb_cons (pc2 := 18) (sx_ishr (show decode cX12_hasStood 17 = .ok (.ishr, 1) by decide +kernel)) rfl
    (sb_cons (pc2 := 19) (sx_iconst (show decode cX12_hasStood 18 = .ok (.iconst 1, 1) by decide +kernel) (by decide)) rfl
    (sb_cons (pc2 := 20) (sx_iand (show decode cX12_hasStood 19 = .ok (.iand, 1) by decide +kernel)) rfl
    (sb_cons (pc2 := 21) (sx_iconst (show decode cX12_hasStood 20 = .ok (.iconst 1, 1) by decide +kernel) (by decide)) rfl
    (sb_cons (pc2 := 24) (sx_icmp_ne (show decode cX12_hasStood 21 = .ok (.if_icmp .ne 12, 3) by decide +kernel) (by decide)) rfl
    (sb_cons (pc2 := 27) (sx_iinc (show decode cX12_hasStood 24 = .ok (.iinc 4 (-1), 3) by decide +kernel) (by decide)) rfl
    (sb_cons (pc2 := 30) (sx_iinc (show decode cX12_hasStood 27 = .ok (.iinc 5 1, 3) by decide +kernel) (by decide)) rfl
    (sb_cons (pc2 := 33) (px_snd_goto (show decode cX12_hasStood 30 = .ok (.goto (-24), 3) by decide +kernel) (by decide)) rfl sb_nil)))))))))))))
  (ms_cons
  (sb_cons (pc2 := 34) (sx_iload_n (show decode cX12_hasStood 33 = .ok (.iload_n 3, 1) by decide +kernel) rfl) rfl
    (sb_cons (pc2 := 36) (sx_iload (show decode cX12_hasStood 34 = .ok (.iload 5, 2) by decide +kernel)) rfl
    (sb_cons (pc2 := 37) (sx_aload_n (show decode cX12_hasStood 36 = .ok (.aload_n 0, 1) by decide +kernel) rfl) rfl
    (sb_cons (pc2 := 40) (sx_getf (show decode cX12_hasStood 37 = .ok (.getfield 392, 3) by decide +kernel) rfl iX12 (by decide) wd_942) rfl
    (sb_cons (pc2 := 41) (sx_imul (show decode cX12_hasStood 40 = .ok (.imul, 1) by decide +kernel)) rfl
    (sb_cons (pc2 := 42) (sx_iadd (show decode cX12_hasStood 41 = .ok (.iadd, 1) by decide +kernel)) rfl
    (sb_cons (pc2 := 43) (sx_aload_n (show decode cX12_hasStood 42 = .ok (.aload_n 0, 1) by decide +kernel) rfl) rfl
    (sb_cons (pc2 := 46) (sx_getf (show decode cX12_hasStood 43 = .ok (.getfield 45, 3) by decide +kernel) rfl iX12 (by decide) wd_682) rfl
    (sb_cons (pc2 := 47) (sx_iload_n (show decode cX12_hasStood 46 = .ok (.iload_n 1, 1) by decide +kernel) rfl) rfl
    (sb_cons (pc2 := 48) (sx_iald (show decode cX12_hasStood 47 = .ok (.iaload, 1) by decide +kernel)) rfl
    (sb_cons (pc2 := 50) (sx_bipush (show decode cX12_hasStood 48 = .ok (.bipush 10, 2) by decide +kernel) (by decide)) rfl
    (sb_cons (pc2 := 51) (sx_irem (show decode cX12_hasStood 50 = .ok (.irem, 1) by decide +kernel)) rfl
    (sb_cons (pc2 := 54) (sx_icmp_ne (show decode cX12_hasStood 51 = .ok (.if_icmp .ne 28, 3) by decide +kernel) (by decide)) rfl
    (sb_cons (pc2 := 56) (sx_iload (show decode cX12_hasStood 54 = .ok (.iload 5, 2) by decide +kernel)) rfl
    (sb_cons (pc2 := 57) (sx_iconst (show decode cX12_hasStood 56 = .ok (.iconst 3, 1) by decide +kernel) (by decide)) rfl
    (sb_cons (pc2 := 60) (sx_icmp_le (show decode cX12_hasStood 57 = .ok (.if_icmp .le 7, 3) by decide +kernel) (by decide)) rfl
    (sb_cons (pc2 := 61) (sx_iconst (show decode cX12_hasStood 60 = .ok (.iconst 3, 1) by decide +kernel) (by decide)) rfl
    (sb_cons (pc2 := 64) (px_snd_goto (show decode cX12_hasStood 61 = .ok (.goto 5, 3) by decide +kernel) (by decide)) rfl sb_nil))))))))))))))))))
  (ms_cons
  (sb_cons (pc2 := 66) (sx_iload (show decode cX12_hasStood 64 = .ok (.iload 5, 2) by decide +kernel)) rfl sb_nil)
  (ms_cons
  (sb_cons (pc2 := 67) (sx_aload_n (show decode cX12_hasStood 66 = .ok (.aload_n 0, 1) by decide +kernel) rfl) rfl
    (sb_cons (pc2 := 70) (sx_getf (show decode cX12_hasStood 67 = .ok (.getfield 48, 3) by decide +kernel) rfl iX12 (by decide) wd_683) rfl
    (sb_cons (pc2 := 71) (sx_iload_n (show decode cX12_hasStood 70 = .ok (.iload_n 1, 1) by decide +kernel) rfl) rfl
    (sb_cons (pc2 := 72) (sx_iald (show decode cX12_hasStood 71 = .ok (.iaload, 1) by decide +kernel)) rfl
    (sb_cons (pc2 := 75) (sx_icmp_ne (show decode cX12_hasStood 72 = .ok (.if_icmp .ne 7, 3) by decide +kernel) (by decide)) rfl
    (sb_cons (pc2 := 76) (sx_iconst (show decode cX12_hasStood 75 = .ok (.iconst 1, 1) by decide +kernel) (by decide)) rfl
    (sb_cons (pc2 := 79) (px_snd_goto (show decode cX12_hasStood 76 = .ok (.goto 4, 3) by decide +kernel) (by decide)) rfl sb_nil)))))))
  (ms_cons
  (sb_cons (pc2 := 80) (sx_iconst (show decode cX12_hasStood 79 = .ok (.iconst 0, 1) by decide +kernel) (by decide)) rfl sb_nil)
  (ms_cons
  (sb_cons (pc2 := 81) (sx_retz (show decode cX12_hasStood 80 = .ok (.ireturn, 1) by decide +kernel) rfl) rfl sb_nil)
  ms_nil)))))))
def kX12_ways (X : px_X) : px_B := [(0, [], [px_push (.int 0), px_istore 4, px_push (.int 0), px_istore 5], 6),
  (6, [true, true, true, true, true, true, false], [px_iload 5, px_push (.int 5), px_if2 (fun x y => decide (y ≤ x)) 68, px_push (.int 0), px_istore 6], 15),
  (15, [true, true, true, true, true, true, true], [px_iload 6, px_push (.int 10), px_if2 (fun x y => decide (y ≤ x)) 62, px_aload 0, px_iload 1, px_iload 5, px_iload 6, px_cV X 246 4 12, px_if1 (fun x => decide (x = 0)) 56, px_iload 3, px_if1 (fun x => decide (x = 0)) 53, px_iload 4, px_iload 2, px_if2 (fun x y => decide (¬ x = y)) 53, px_push (.int 10), px_iload 5, (px_i2 fun x y => x * y), px_iload 6, (px_i2 fun x y => x + y), px_reti], 53),
  (53, [true, true, true, true, true, true, true], [px_iinc 4 1], 56),
  (56, [true, true, true, true, true, true, true], [px_iinc 6 1, px_goto 15], 62),
  (62, [true, true, true, true, true, true, false], [px_iinc 5 1, px_goto 6], 68),
  (68, [false, false, false, true, true, false, false], [px_iload 3, px_if1 (fun x => decide (x = 0)) 76, px_push (.int (-1)), px_goto 78], 76),
  (76, [false, false, false, false, true, false, false], [px_iload 4], 78),
  (78, [false, false, false, false, false, false, false], [px_reti], 79)]
set_option maxRecDepth 100000 in
set_option maxHeartbeats 8000000 in
theorem sX12_ways (d : Nat) (X : px_X) : px_MS d X YX12_ways (kX12_ways X) :=
  (ms_cons
  (sb_cons (pc2 := 1) (sx_iconst (show decode cX12_ways 0 = .ok (.iconst 0, 1) by decide +kernel) (by decide)) rfl
    (sb_cons (pc2 := 3) (sx_istore (show decode cX12_ways 1 = .ok (.istore 4, 2) by decide +kernel)) rfl
    (sb_cons (pc2 := 4) (sx_iconst (show decode cX12_ways 3 = .ok (.iconst 0, 1) by decide +kernel) (by decide)) rfl
    (sb_cons (pc2 := 6) (sx_istore (show decode cX12_ways 4 = .ok (.istore 5, 2) by decide +kernel)) rfl sb_nil))))
  (ms_cons
  (sb_cons (pc2 := 8) (sx_iload (show decode cX12_ways 6 = .ok (.iload 5, 2) by decide +kernel)) rfl
    (sb_cons (pc2 := 9) (sx_iconst (show decode cX12_ways 8 = .ok (.iconst 5, 1) by decide +kernel) (by decide)) rfl
    (sb_cons (pc2 := 12) (sx_icmp_ge (show decode cX12_ways 9 = .ok (.if_icmp .ge 59, 3) by decide +kernel) (by decide)) rfl
    (sb_cons (pc2 := 13) (sx_iconst (show decode cX12_ways 12 = .ok (.iconst 0, 1) by decide +kernel) (by decide)) rfl
    (sb_cons (pc2 := 15) (sx_istore (show decode cX12_ways 13 = .ok (.istore 6, 2) by decide +kernel)) rfl sb_nil)))))
  (ms_cons
  (sb_cons (pc2 := 17) (sx_iload (show decode cX12_ways 15 = .ok (.iload 6, 2) by decide +kernel)) rfl
    (sb_cons (pc2 := 19) (sx_bipush (show decode cX12_ways 17 = .ok (.bipush 10, 2) by decide +kernel) (by decide)) rfl
    (sb_cons (pc2 := 22) (sx_icmp_ge (show decode cX12_ways 19 = .ok (.if_icmp .ge 43, 3) by decide +kernel) (by decide)) rfl
    (sb_cons (pc2 := 23) (sx_aload_n (show decode cX12_ways 22 = .ok (.aload_n 0, 1) by decide +kernel) rfl) rfl
    (sb_cons (pc2 := 24) (sx_iload_n (show decode cX12_ways 23 = .ok (.iload_n 1, 1) by decide +kernel) rfl) rfl
    (sb_cons (pc2 := 26) (sx_iload (show decode cX12_ways 24 = .ok (.iload 5, 2) by decide +kernel)) rfl
    (sb_cons (pc2 := 28) (sx_iload (show decode cX12_ways 26 = .ok (.iload 6, 2) by decide +kernel)) rfl
    (sb_cons (pc2 := 31) (sx_cV (Y' := YX12_hasStood) (q := (RX12, TX12, 69)) rfl (show decode cX12_ways 28 = .ok (.invokevirtual 395, 3) by decide +kernel) rfl rfl (px_w4 wd_944 wd_945 wd_946 wd_719) wd_943 ⟨by decide, by decide, by decide +kernel⟩ (by decide)) rfl
    (sb_cons (pc2 := 34) (sx_if_eq (show decode cX12_ways 31 = .ok (.ifCond .eq 25, 3) by decide +kernel) (by decide)) rfl
    (sb_cons (pc2 := 35) (sx_iload_n (show decode cX12_ways 34 = .ok (.iload_n 3, 1) by decide +kernel) rfl) rfl
    (sb_cons (pc2 := 38) (sx_if_eq (show decode cX12_ways 35 = .ok (.ifCond .eq 18, 3) by decide +kernel) (by decide)) rfl
    (sb_cons (pc2 := 40) (sx_iload (show decode cX12_ways 38 = .ok (.iload 4, 2) by decide +kernel)) rfl
    (sb_cons (pc2 := 41) (sx_iload_n (show decode cX12_ways 40 = .ok (.iload_n 2, 1) by decide +kernel) rfl) rfl
    (sb_cons (pc2 := 44) (sx_icmp_ne (show decode cX12_ways 41 = .ok (.if_icmp .ne 12, 3) by decide +kernel) (by decide)) rfl
    (sb_cons (pc2 := 46) (sx_bipush (show decode cX12_ways 44 = .ok (.bipush 10, 2) by decide +kernel) (by decide)) rfl
    (sb_cons (pc2 := 48) (sx_iload (show decode cX12_ways 46 = .ok (.iload 5, 2) by decide +kernel)) rfl
    (sb_cons (pc2 := 49) (sx_imul (show decode cX12_ways 48 = .ok (.imul, 1) by decide +kernel)) rfl
    (sb_cons (pc2 := 51) (sx_iload (show decode cX12_ways 49 = .ok (.iload 6, 2) by decide +kernel)) rfl
    (sb_cons (pc2 := 52) (sx_iadd (show decode cX12_ways 51 = .ok (.iadd, 1) by decide +kernel)) rfl
    (sb_cons (pc2 := 53) (sx_reti (show decode cX12_ways 52 = .ok (.ireturn, 1) by decide +kernel) rfl) rfl sb_nil))))))))))))))))))))
  (ms_cons
  (sb_cons (pc2 := 56) (sx_iinc (show decode cX12_ways 53 = .ok (.iinc 4 1, 3) by decide +kernel) (by decide)) rfl sb_nil)
  (ms_cons
  (sb_cons (pc2 := 59) (sx_iinc (show decode cX12_ways 56 = .ok (.iinc 6 1, 3) by decide +kernel) (by decide)) rfl
    (sb_cons (pc2 := 62) (px_snd_goto (show decode cX12_ways 59 = .ok (.goto (-44), 3) by decide +kernel) (by decide)) rfl sb_nil))
  (ms_cons
  (sb_cons (pc2 := 65) (sx_iinc (show decode cX12_ways 62 = .ok (.iinc 5 1, 3) by decide +kernel) (by decide)) rfl
    (sb_cons (pc2 := 68) (px_snd_goto (show decode cX12_ways 65 = .ok (.goto (-59), 3) by decide +kernel) (by decide)) rfl sb_nil))
  (ms_cons
  (sb_cons (pc2 := 69) (sx_iload_n (show decode cX12_ways 68 = .ok (.iload_n 3, 1) by decide +kernel) rfl) rfl
    (sb_cons (pc2 := 72) (sx_if_eq (show decode cX12_ways 69 = .ok (.ifCond .eq 7, 3) by decide +kernel) (by decide)) rfl
    (sb_cons (pc2 := 73) (sx_iconst (show decode cX12_ways 72 = .ok (.iconst (-1), 1) by decide +kernel) (by decide)) rfl
    (sb_cons (pc2 := 76) (px_snd_goto (show decode cX12_ways 73 = .ok (.goto 5, 3) by decide +kernel) (by decide)) rfl sb_nil))))
  (ms_cons
  (sb_cons (pc2 := 78) (sx_iload (show decode cX12_ways 76 = .ok (.iload 4, 2) by decide +kernel)) rfl sb_nil)
  (ms_cons
  (sb_cons (pc2 := 79) (sx_reti (show decode cX12_ways 78 = .ok (.ireturn, 1) by decide +kernel) rfl) rfl sb_nil)
  ms_nil)))))))))
def kX12_stood (X : px_X) : px_B := [(0, [], [px_aload 0, px_iload 1, px_cV X 167 2 12, px_if1 (fun x => decide (x = 0)) 18, px_aload 0, px_iload 1, px_push (.int 0), px_push (.int 0), px_cV X 247 4 12, px_goto 20], 18),
  (18, [false, false], [px_push (.int (-2))], 20),
  (20, [false, false], [px_reti], 21)]
set_option maxRecDepth 100000 in
set_option maxHeartbeats 8000000 in
theorem sX12_stood (d : Nat) (X : px_X) : px_MS d X YX12_stood (kX12_stood X) :=
  (ms_cons
  (sb_cons (pc2 := 1) (sx_aload_n (show decode cX12_stood 0 = .ok (.aload_n 0, 1) by decide +kernel) rfl) rfl
    (sb_cons (pc2 := 2) (sx_iload_n (show decode cX12_stood 1 = .ok (.iload_n 1, 1) by decide +kernel) rfl) rfl
    (sb_cons (pc2 := 5) (sx_cV (Y' := YX12_isFind) (q := (RX12, TX12, 69)) rfl (show decode cX12_stood 2 = .ok (.invokevirtual 196, 3) by decide +kernel) rfl rfl (px_w4 wd_761 wd_762 wd_763 wd_719) wd_760 ⟨by decide, by decide, by decide +kernel⟩ (by decide)) rfl
    (sb_cons (pc2 := 8) (sx_if_eq (show decode cX12_stood 5 = .ok (.ifCond .eq 13, 3) by decide +kernel) (by decide)) rfl
    (sb_cons (pc2 := 9) (sx_aload_n (show decode cX12_stood 8 = .ok (.aload_n 0, 1) by decide +kernel) rfl) rfl
    (sb_cons (pc2 := 10) (sx_iload_n (show decode cX12_stood 9 = .ok (.iload_n 1, 1) by decide +kernel) rfl) rfl
    (sb_cons (pc2 := 11) (sx_iconst (show decode cX12_stood 10 = .ok (.iconst 0, 1) by decide +kernel) (by decide)) rfl
    (sb_cons (pc2 := 12) (sx_iconst (show decode cX12_stood 11 = .ok (.iconst 0, 1) by decide +kernel) (by decide)) rfl
    (sb_cons (pc2 := 15) (sx_cV (Y' := YX12_ways) (q := (RX12, TX12, 69)) rfl (show decode cX12_stood 12 = .ok (.invokevirtual 398, 3) by decide +kernel) rfl rfl (px_w4 wd_948 wd_949 wd_950 wd_719) wd_947 ⟨by decide, by decide, by decide +kernel⟩ (by decide)) rfl
    (sb_cons (pc2 := 18) (px_snd_goto (show decode cX12_stood 15 = .ok (.goto 5, 3) by decide +kernel) (by decide)) rfl sb_nil))))))))))
  (ms_cons
  (sb_cons (pc2 := 20) (sx_bipush (show decode cX12_stood 18 = .ok (.bipush (-2), 2) by decide +kernel) (by decide)) rfl sb_nil)
  (ms_cons
  (sb_cons (pc2 := 21) (sx_reti (show decode cX12_stood 20 = .ok (.ireturn, 1) by decide +kernel) rfl) rfl sb_nil)
  ms_nil)))
def kX12_stoodAt (X : px_X) : px_B := [(0, [], [px_aload 0, px_iload 1, px_cV X 167 2 12, px_if1 (fun x => decide (x = 0)) 18, px_aload 0, px_iload 1, px_iload 2, px_push (.int 1), px_cV X 247 4 12, px_goto 20], 18),
  (18, [false, false, false], [px_push (.int (-2))], 20),
  (20, [false, false, false], [px_reti], 21)]
set_option maxRecDepth 100000 in
set_option maxHeartbeats 8000000 in
theorem sX12_stoodAt (d : Nat) (X : px_X) : px_MS d X YX12_stoodAt (kX12_stoodAt X) :=
  (ms_cons
  (sb_cons (pc2 := 1) (sx_aload_n (show decode cX12_stoodAt 0 = .ok (.aload_n 0, 1) by decide +kernel) rfl) rfl
    (sb_cons (pc2 := 2) (sx_iload_n (show decode cX12_stoodAt 1 = .ok (.iload_n 1, 1) by decide +kernel) rfl) rfl
    (sb_cons (pc2 := 5) (sx_cV (Y' := YX12_isFind) (q := (RX12, TX12, 69)) rfl (show decode cX12_stoodAt 2 = .ok (.invokevirtual 196, 3) by decide +kernel) rfl rfl (px_w4 wd_761 wd_762 wd_763 wd_719) wd_760 ⟨by decide, by decide, by decide +kernel⟩ (by decide)) rfl
    (sb_cons (pc2 := 8) (sx_if_eq (show decode cX12_stoodAt 5 = .ok (.ifCond .eq 13, 3) by decide +kernel) (by decide)) rfl
    (sb_cons (pc2 := 9) (sx_aload_n (show decode cX12_stoodAt 8 = .ok (.aload_n 0, 1) by decide +kernel) rfl) rfl
    (sb_cons (pc2 := 10) (sx_iload_n (show decode cX12_stoodAt 9 = .ok (.iload_n 1, 1) by decide +kernel) rfl) rfl
    (sb_cons (pc2 := 11) (sx_iload_n (show decode cX12_stoodAt 10 = .ok (.iload_n 2, 1) by decide +kernel) rfl) rfl
    (sb_cons (pc2 := 12) (sx_iconst (show decode cX12_stoodAt 11 = .ok (.iconst 1, 1) by decide +kernel) (by decide)) rfl
    (sb_cons (pc2 := 15) (sx_cV (Y' := YX12_ways) (q := (RX12, TX12, 69)) rfl (show decode cX12_stoodAt 12 = .ok (.invokevirtual 398, 3) by decide +kernel) rfl rfl (px_w4 wd_948 wd_949 wd_950 wd_719) wd_947 ⟨by decide, by decide, by decide +kernel⟩ (by decide)) rfl
    (sb_cons (pc2 := 18) (px_snd_goto (show decode cX12_stoodAt 15 = .ok (.goto 5, 3) by decide +kernel) (by decide)) rfl sb_nil))))))))))
  (ms_cons
  (sb_cons (pc2 := 20) (sx_bipush (show decode cX12_stoodAt 18 = .ok (.bipush (-2), 2) by decide +kernel) (by decide)) rfl sb_nil)
  (ms_cons
  (sb_cons (pc2 := 21) (sx_reti (show decode cX12_stoodAt 20 = .ok (.ireturn, 1) by decide +kernel) rfl) rfl sb_nil)
  ms_nil)))
def kX12_count (X : px_X) : px_B := [(0, [], [px_push (.int 0), px_istore 2, px_iload 1, px_sw [(0, 68), (1, 73), (2, 78), (3, 83), (4, 88), (5, 93), (6, 98), (7, 103), (8, 108), (9, 113), (10, 118), (11, 123), (12, 159)] 198], 68),
  (68, [true, false, false, false], [px_aload 0, px_getf 12 0, px_reti], 73),
  (73, [true, false, false, false], [px_aload 0, px_getf 12 6, px_reti], 78),
  (78, [true, false, false, false], [px_aload 0, px_getf 12 13, px_reti], 83),
  (83, [true, false, false, false], [px_aload 0, px_getf 12 22, px_reti], 88),
  (88, [true, false, false, false], [px_aload 0, px_getf 12 25, px_reti], 93),
  (93, [true, false, false, false], [px_aload 0, px_getf 12 26, px_reti], 98),
  (98, [true, false, false, false], [px_aload 0, px_getf 12 30, px_reti], 103),
  (103, [true, false, false, false], [px_aload 0, px_getf 12 37, px_reti], 108),
  (108, [true, false, false, false], [px_aload 0, px_getf 12 38, px_reti], 113),
  (113, [true, false, false, false], [px_aload 0, px_getf 12 42, px_reti], 118),
  (118, [true, false, false, false], [px_aload 0, px_getf 12 45, px_reti], 123),
  (123, [true, false, true, false], [px_push (.int 0), px_istore 3], 125),
  (125, [true, false, true, true], [px_iload 3, px_aload 0, px_getf 12 13, px_if2 (fun x y => decide (y ≤ x)) 157, px_iload 2, px_aload 0, px_getf 12 20, px_iload 3, px_iald 0, px_push (.int (-1)), px_if2 (fun x y => decide (¬ x = y)) 148, px_push (.int 1), px_goto 149], 148),
  (148, [true, false, false, true], [px_push (.int 0)], 149),
  (149, [true, false, false, true], [(px_i2 fun x y => x + y), px_istore 2, px_iinc 3 1, px_goto 125], 157),
  (157, [false, false, true, false], [px_iload 2, px_reti], 159),
  (159, [true, false, true, false], [px_aload 0, px_cV X 178 1 12, px_push (.int 0), px_istore 3], 165),
  (165, [true, false, true, true], [px_iload 3, px_aload 0, px_getf 12 6, px_if2 (fun x y => decide (y ≤ x)) 196, px_iload 2, px_aload 0, px_getf 12 10, px_iload 3, px_iald 1, px_if1 (fun x => decide (x = 0)) 187, px_push (.int 1), px_goto 188], 187),
  (187, [true, false, false, true], [px_push (.int 0)], 188),
  (188, [true, false, false, true], [(px_i2 fun x y => x + y), px_istore 2, px_iinc 3 1, px_goto 165], 196),
  (196, [false, false, true, false], [px_iload 2, px_reti], 198),
  (198, [false, false, false, false], [px_push (.int (-2)), px_reti], 201)]
set_option maxRecDepth 100000 in
set_option maxHeartbeats 8000000 in
theorem sX12_count (d : Nat) (X : px_X) : px_MS d X YX12_count (kX12_count X) :=
  (ms_cons
  (sb_cons (pc2 := 1) (sx_iconst (show decode cX12_count 0 = .ok (.iconst 0, 1) by decide +kernel) (by decide)) rfl
    (sb_cons (pc2 := 2) (sx_istore_n (show decode cX12_count 1 = .ok (.istore_n 2, 1) by decide +kernel) rfl) rfl
    (sb_cons (pc2 := 3) (sx_iload_n (show decode cX12_count 2 = .ok (.iload_n 1, 1) by decide +kernel) rfl) rfl
    (sb_cons (pc2 := 68) (sx_tsw (show decode cX12_count 3 = .ok (.tableswitch 195 0 12 #[65, 70, 75, 80, 85, 90, 95, 100, 105, 110, 115, 120, 156], 65) by decide +kernel) (by decide) (by decide +kernel) (by decide +kernel)) rfl sb_nil))))
  (ms_cons
  (sb_cons (pc2 := 69) (sx_aload_n (show decode cX12_count 68 = .ok (.aload_n 0, 1) by decide +kernel) rfl) rfl
    (sb_cons (pc2 := 72) (sx_getf (show decode cX12_count 69 = .ok (.getfield 144, 3) by decide +kernel) rfl iX12 (by decide) wd_715) rfl
    (sb_cons (pc2 := 73) (sx_reti (show decode cX12_count 72 = .ok (.ireturn, 1) by decide +kernel) rfl) rfl sb_nil)))
  (ms_cons
  (sb_cons (pc2 := 74) (sx_aload_n (show decode cX12_count 73 = .ok (.aload_n 0, 1) by decide +kernel) rfl) rfl
    (sb_cons (pc2 := 77) (sx_getf (show decode cX12_count 74 = .ok (.getfield 162, 3) by decide +kernel) rfl iX12 (by decide) wd_726) rfl
    (sb_cons (pc2 := 78) (sx_reti (show decode cX12_count 77 = .ok (.ireturn, 1) by decide +kernel) rfl) rfl sb_nil)))
  (ms_cons
  (sb_cons (pc2 := 79) (sx_aload_n (show decode cX12_count 78 = .ok (.aload_n 0, 1) by decide +kernel) rfl) rfl
    (sb_cons (pc2 := 82) (sx_getf (show decode cX12_count 79 = .ok (.getfield 151, 3) by decide +kernel) rfl iX12 (by decide) wd_720) rfl
    (sb_cons (pc2 := 83) (sx_reti (show decode cX12_count 82 = .ok (.ireturn, 1) by decide +kernel) rfl) rfl sb_nil)))
  (ms_cons
  (sb_cons (pc2 := 84) (sx_aload_n (show decode cX12_count 83 = .ok (.aload_n 0, 1) by decide +kernel) rfl) rfl
    (sb_cons (pc2 := 87) (sx_getf (show decode cX12_count 84 = .ok (.getfield 205, 3) by decide +kernel) rfl iX12 (by decide) wd_772) rfl
    (sb_cons (pc2 := 88) (sx_reti (show decode cX12_count 87 = .ok (.ireturn, 1) by decide +kernel) rfl) rfl sb_nil)))
  (ms_cons
  (sb_cons (pc2 := 89) (sx_aload_n (show decode cX12_count 88 = .ok (.aload_n 0, 1) by decide +kernel) rfl) rfl
    (sb_cons (pc2 := 92) (sx_getf (show decode cX12_count 89 = .ok (.getfield 231, 3) by decide +kernel) rfl iX12 (by decide) wd_796) rfl
    (sb_cons (pc2 := 93) (sx_reti (show decode cX12_count 92 = .ok (.ireturn, 1) by decide +kernel) rfl) rfl sb_nil)))
  (ms_cons
  (sb_cons (pc2 := 94) (sx_aload_n (show decode cX12_count 93 = .ok (.aload_n 0, 1) by decide +kernel) rfl) rfl
    (sb_cons (pc2 := 97) (sx_getf (show decode cX12_count 94 = .ok (.getfield 234, 3) by decide +kernel) rfl iX12 (by decide) wd_797) rfl
    (sb_cons (pc2 := 98) (sx_reti (show decode cX12_count 97 = .ok (.ireturn, 1) by decide +kernel) rfl) rfl sb_nil)))
  (ms_cons
  (sb_cons (pc2 := 99) (sx_aload_n (show decode cX12_count 98 = .ok (.aload_n 0, 1) by decide +kernel) rfl) rfl
    (sb_cons (pc2 := 102) (sx_getf (show decode cX12_count 99 = .ok (.getfield 240, 3) by decide +kernel) rfl iX12 (by decide) wd_802) rfl
    (sb_cons (pc2 := 103) (sx_reti (show decode cX12_count 102 = .ok (.ireturn, 1) by decide +kernel) rfl) rfl sb_nil)))
  (ms_cons
  (sb_cons (pc2 := 104) (sx_aload_n (show decode cX12_count 103 = .ok (.aload_n 0, 1) by decide +kernel) rfl) rfl
    (sb_cons (pc2 := 107) (sx_getf (show decode cX12_count 104 = .ok (.getfield 346, 3) by decide +kernel) rfl iX12 (by decide) wd_904) rfl
    (sb_cons (pc2 := 108) (sx_reti (show decode cX12_count 107 = .ok (.ireturn, 1) by decide +kernel) rfl) rfl sb_nil)))
  (ms_cons
  (sb_cons (pc2 := 109) (sx_aload_n (show decode cX12_count 108 = .ok (.aload_n 0, 1) by decide +kernel) rfl) rfl
    (sb_cons (pc2 := 112) (sx_getf (show decode cX12_count 109 = .ok (.getfield 216, 3) by decide +kernel) rfl iX12 (by decide) wd_780) rfl
    (sb_cons (pc2 := 113) (sx_reti (show decode cX12_count 112 = .ok (.ireturn, 1) by decide +kernel) rfl) rfl sb_nil)))
  (ms_cons
  (sb_cons (pc2 := 114) (sx_aload_n (show decode cX12_count 113 = .ok (.aload_n 0, 1) by decide +kernel) rfl) rfl
    (sb_cons (pc2 := 117) (sx_getf (show decode cX12_count 114 = .ok (.getfield 370, 3) by decide +kernel) rfl iX12 (by decide) wd_929) rfl
    (sb_cons (pc2 := 118) (sx_reti (show decode cX12_count 117 = .ok (.ireturn, 1) by decide +kernel) rfl) rfl sb_nil)))
  (ms_cons
  (sb_cons (pc2 := 119) (sx_aload_n (show decode cX12_count 118 = .ok (.aload_n 0, 1) by decide +kernel) rfl) rfl
    (sb_cons (pc2 := 122) (sx_getf (show decode cX12_count 119 = .ok (.getfield 376, 3) by decide +kernel) rfl iX12 (by decide) wd_931) rfl
    (sb_cons (pc2 := 123) (sx_reti (show decode cX12_count 122 = .ok (.ireturn, 1) by decide +kernel) rfl) rfl sb_nil)))
  (ms_cons
  (sb_cons (pc2 := 124) (sx_iconst (show decode cX12_count 123 = .ok (.iconst 0, 1) by decide +kernel) (by decide)) rfl
    (sb_cons (pc2 := 125) (sx_istore_n (show decode cX12_count 124 = .ok (.istore_n 3, 1) by decide +kernel) rfl) rfl sb_nil))
  (ms_cons
  (sb_cons (pc2 := 126) (sx_iload_n (show decode cX12_count 125 = .ok (.iload_n 3, 1) by decide +kernel) rfl) rfl
    (sb_cons (pc2 := 127) (sx_aload_n (show decode cX12_count 126 = .ok (.aload_n 0, 1) by decide +kernel) rfl) rfl
    (sb_cons (pc2 := 130) (sx_getf (show decode cX12_count 127 = .ok (.getfield 151, 3) by decide +kernel) rfl iX12 (by decide) wd_720) rfl
    (sb_cons (pc2 := 133) (sx_icmp_ge (show decode cX12_count 130 = .ok (.if_icmp .ge 27, 3) by decide +kernel) (by decide)) rfl
    (sb_cons (pc2 := 134) (sx_iload_n (show decode cX12_count 133 = .ok (.iload_n 2, 1) by decide +kernel) rfl) rfl
    (sb_cons (pc2 := 135) (sx_aload_n (show decode cX12_count 134 = .ok (.aload_n 0, 1) by decide +kernel) rfl) rfl
    (sb_cons (pc2 := 138) (sx_getf (show decode cX12_count 135 = .ok (.getfield 60, 3) by decide +kernel) rfl iX12 (by decide) wd_687) rfl
    (sb_cons (pc2 := 139) (sx_iload_n (show decode cX12_count 138 = .ok (.iload_n 3, 1) by decide +kernel) rfl) rfl
    (sb_cons (pc2 := 140) (sx_iald (show decode cX12_count 139 = .ok (.iaload, 1) by decide +kernel)) rfl
    (sb_cons (pc2 := 141) (sx_iconst (show decode cX12_count 140 = .ok (.iconst (-1), 1) by decide +kernel) (by decide)) rfl
    (sb_cons (pc2 := 144) (sx_icmp_ne (show decode cX12_count 141 = .ok (.if_icmp .ne 7, 3) by decide +kernel) (by decide)) rfl
    (sb_cons (pc2 := 145) (sx_iconst (show decode cX12_count 144 = .ok (.iconst 1, 1) by decide +kernel) (by decide)) rfl
    (sb_cons (pc2 := 148) (px_snd_goto (show decode cX12_count 145 = .ok (.goto 4, 3) by decide +kernel) (by decide)) rfl sb_nil)))))))))))))
  (ms_cons
  (sb_cons (pc2 := 149) (sx_iconst (show decode cX12_count 148 = .ok (.iconst 0, 1) by decide +kernel) (by decide)) rfl sb_nil)
  (ms_cons
  (sb_cons (pc2 := 150) (sx_iadd (show decode cX12_count 149 = .ok (.iadd, 1) by decide +kernel)) rfl
    (sb_cons (pc2 := 151) (sx_istore_n (show decode cX12_count 150 = .ok (.istore_n 2, 1) by decide +kernel) rfl) rfl
    (sb_cons (pc2 := 154) (sx_iinc (show decode cX12_count 151 = .ok (.iinc 3 1, 3) by decide +kernel) (by decide)) rfl
    (sb_cons (pc2 := 157) (px_snd_goto (show decode cX12_count 154 = .ok (.goto (-29), 3) by decide +kernel) (by decide)) rfl sb_nil))))
  (ms_cons
  (sb_cons (pc2 := 158) (sx_iload_n (show decode cX12_count 157 = .ok (.iload_n 2, 1) by decide +kernel) rfl) rfl
    (sb_cons (pc2 := 159) (sx_reti (show decode cX12_count 158 = .ok (.ireturn, 1) by decide +kernel) rfl) rfl sb_nil))
  (ms_cons
  (sb_cons (pc2 := 160) (sx_aload_n (show decode cX12_count 159 = .ok (.aload_n 0, 1) by decide +kernel) rfl) rfl
    (sb_cons (pc2 := 163) (sx_cV (Y' := YX12_knows) (q := (RX12, TX12, 69)) rfl (show decode cX12_count 160 = .ok (.invokevirtual 193, 3) by decide +kernel) rfl rfl (px_w4 wd_757 wd_758 wd_759 wd_719) wd_756 ⟨by decide, by decide, by decide +kernel⟩ (by decide)) rfl
    (sb_cons (pc2 := 164) (sx_iconst (show decode cX12_count 163 = .ok (.iconst 0, 1) by decide +kernel) (by decide)) rfl
    (sb_cons (pc2 := 165) (sx_istore_n (show decode cX12_count 164 = .ok (.istore_n 3, 1) by decide +kernel) rfl) rfl sb_nil))))
  (ms_cons
  (sb_cons (pc2 := 166) (sx_iload_n (show decode cX12_count 165 = .ok (.iload_n 3, 1) by decide +kernel) rfl) rfl
    (sb_cons (pc2 := 167) (sx_aload_n (show decode cX12_count 166 = .ok (.aload_n 0, 1) by decide +kernel) rfl) rfl
    (sb_cons (pc2 := 170) (sx_getf (show decode cX12_count 167 = .ok (.getfield 162, 3) by decide +kernel) rfl iX12 (by decide) wd_726) rfl
    (sb_cons (pc2 := 173) (sx_icmp_ge (show decode cX12_count 170 = .ok (.if_icmp .ge 26, 3) by decide +kernel) (by decide)) rfl
    (sb_cons (pc2 := 174) (sx_iload_n (show decode cX12_count 173 = .ok (.iload_n 2, 1) by decide +kernel) rfl) rfl
    (sb_cons (pc2 := 175) (sx_aload_n (show decode cX12_count 174 = .ok (.aload_n 0, 1) by decide +kernel) rfl) rfl
    (sb_cons (pc2 := 178) (sx_getf (show decode cX12_count 175 = .ok (.getfield 35, 3) by decide +kernel) rfl iX12 (by decide) wd_679) rfl
    (sb_cons (pc2 := 179) (sx_iload_n (show decode cX12_count 178 = .ok (.iload_n 3, 1) by decide +kernel) rfl) rfl
    (sb_cons (pc2 := 180) (sx_zald (show decode cX12_count 179 = .ok (.baload, 1) by decide +kernel)) rfl
    (sb_cons (pc2 := 183) (sx_if_eq (show decode cX12_count 180 = .ok (.ifCond .eq 7, 3) by decide +kernel) (by decide)) rfl
    (sb_cons (pc2 := 184) (sx_iconst (show decode cX12_count 183 = .ok (.iconst 1, 1) by decide +kernel) (by decide)) rfl
    (sb_cons (pc2 := 187) (px_snd_goto (show decode cX12_count 184 = .ok (.goto 4, 3) by decide +kernel) (by decide)) rfl sb_nil))))))))))))
  (ms_cons
  (sb_cons (pc2 := 188) (sx_iconst (show decode cX12_count 187 = .ok (.iconst 0, 1) by decide +kernel) (by decide)) rfl sb_nil)
  (ms_cons
  (sb_cons (pc2 := 189) (sx_iadd (show decode cX12_count 188 = .ok (.iadd, 1) by decide +kernel)) rfl
    (sb_cons (pc2 := 190) (sx_istore_n (show decode cX12_count 189 = .ok (.istore_n 2, 1) by decide +kernel) rfl) rfl
    (sb_cons (pc2 := 193) (sx_iinc (show decode cX12_count 190 = .ok (.iinc 3 1, 3) by decide +kernel) (by decide)) rfl
    (sb_cons (pc2 := 196) (px_snd_goto (show decode cX12_count 193 = .ok (.goto (-28), 3) by decide +kernel) (by decide)) rfl sb_nil))))
  (ms_cons
  (sb_cons (pc2 := 197) (sx_iload_n (show decode cX12_count 196 = .ok (.iload_n 2, 1) by decide +kernel) rfl) rfl
    (sb_cons (pc2 := 198) (sx_reti (show decode cX12_count 197 = .ok (.ireturn, 1) by decide +kernel) rfl) rfl sb_nil))
  (ms_cons
  (sb_cons (pc2 := 200) (sx_bipush (show decode cX12_count 198 = .ok (.bipush (-2), 2) by decide +kernel) (by decide)) rfl
    (sb_cons (pc2 := 201) (sx_reti (show decode cX12_count 200 = .ok (.ireturn, 1) by decide +kernel) rfl) rfl sb_nil))
  ms_nil)))))))))))))))))))))))
def kX12_isSheet (X : px_X) : px_B := [(0, [], [px_iload 0, px_push (.int 0), px_push (.int 3), px_cS X 165 3, px_retz], 7)]
set_option maxRecDepth 100000 in
set_option maxHeartbeats 8000000 in
theorem sX12_isSheet (d : Nat) (X : px_X) : px_MS d X YX12_isSheet (kX12_isSheet X) :=
  (ms_cons
  (sb_cons (pc2 := 1) (sx_iload_n (show decode cX12_isSheet 0 = .ok (.iload_n 0, 1) by decide +kernel) rfl) rfl
    (sb_cons (pc2 := 2) (sx_iconst (show decode cX12_isSheet 1 = .ok (.iconst 0, 1) by decide +kernel) (by decide)) rfl
    (sb_cons (pc2 := 3) (sx_iconst (show decode cX12_isSheet 2 = .ok (.iconst 3, 1) by decide +kernel) (by decide)) rfl
    (sb_cons (pc2 := 6) (sx_cS (Y' := YX12_in) rfl (show decode cX12_isSheet 3 = .ok (.invokestatic 147, 3) by decide +kernel) rfl (px_w3 wd_717 wd_718 wd_719) wd_716 ⟨by decide, by decide, by decide +kernel⟩ (by decide)) rfl
    (sb_cons (pc2 := 7) (sx_retz (show decode cX12_isSheet 6 = .ok (.ireturn, 1) by decide +kernel) rfl) rfl sb_nil)))))
  ms_nil)
def kX12_sheet (X : px_X) : px_B := [(0, [], [px_iload 1, px_cS X 251 1, px_if1 (fun x => decide (x = 0)) 27, px_iload 2, px_push (.int (-1)), px_push (.int 2), px_cS X 165 3, px_if1 (fun x => decide (x = 0)) 27, px_iload 2, px_push (.int (-1)), px_if2 (fun x y => decide (x = y)) 30, px_iload 3, px_push (.int 40), px_if2 (fun x y => decide (x ≤ y)) 30], 27),
  (27, [false, false, false, false, false], [px_push (.int (-2)), px_reti], 30),
  (30, [true, true, true, true, false], [px_iload 2, px_push (.int (-1)), px_if2 (fun x y => decide (x = y)) 42, px_iload 3, px_if1 (fun x => decide (0 ≤ x)) 42, px_push (.int (-14)), px_reti], 42),
  (42, [true, true, true, true, false], [px_aload 0, px_getf 12 50, px_iload 1, px_iload 2, px_iast 0, px_aload 0, px_getf 12 51, px_iload 1, px_iload 2, px_push (.int (-1)), px_if2 (fun x y => decide (¬ x = y)) 63, px_push (.int 0), px_goto 64], 63),
  (63, [true, true, false, true, false], [px_iload 3], 64),
  (64, [true, true, false, false, false], [px_iast 0, px_push (.int 40), px_iload 1, (px_i2 fun x y => x * y), px_istore 4], 71),
  (71, [true, true, false, false, true], [px_iload 4, px_push (.int 40), px_iload 1, (px_i2 fun x y => x * y), px_push (.int 40), (px_i2 fun x y => x + y), px_if2 (fun x y => decide (y ≤ x)) 105, px_aload 0, px_getf 12 52, px_iload 4, px_push (.int 0), px_iast 0, px_aload 0, px_getf 12 53, px_iload 4, px_push (.int 0), px_zast, px_iinc 4 1, px_goto 71], 105),
  (105, [false, false, false, false, false], [px_push (.int 1), px_reti], 107)]
set_option maxRecDepth 100000 in
set_option maxHeartbeats 8000000 in
theorem sX12_sheet (d : Nat) (X : px_X) : px_MS d X YX12_sheet (kX12_sheet X) :=
  (ms_cons
  (sb_cons (pc2 := 1) (sx_iload_n (show decode cX12_sheet 0 = .ok (.iload_n 1, 1) by decide +kernel) rfl) rfl
    (sb_cons (pc2 := 4) (sx_cS (Y' := YX12_isSheet) rfl (show decode cX12_sheet 1 = .ok (.invokestatic 165, 3) by decide +kernel) rfl (px_w3 wd_728 wd_729 wd_719) wd_727 ⟨by decide, by decide, by decide +kernel⟩ (by decide)) rfl
    (sb_cons (pc2 := 7) (sx_if_eq (show decode cX12_sheet 4 = .ok (.ifCond .eq 23, 3) by decide +kernel) (by decide)) rfl
    (sb_cons (pc2 := 8) (sx_iload_n (show decode cX12_sheet 7 = .ok (.iload_n 2, 1) by decide +kernel) rfl) rfl
    (sb_cons (pc2 := 9) (sx_iconst (show decode cX12_sheet 8 = .ok (.iconst (-1), 1) by decide +kernel) (by decide)) rfl
    (sb_cons (pc2 := 10) (sx_iconst (show decode cX12_sheet 9 = .ok (.iconst 2, 1) by decide +kernel) (by decide)) rfl
    (sb_cons (pc2 := 13) (sx_cS (Y' := YX12_in) rfl (show decode cX12_sheet 10 = .ok (.invokestatic 147, 3) by decide +kernel) rfl (px_w3 wd_717 wd_718 wd_719) wd_716 ⟨by decide, by decide, by decide +kernel⟩ (by decide)) rfl
    (sb_cons (pc2 := 16) (sx_if_eq (show decode cX12_sheet 13 = .ok (.ifCond .eq 14, 3) by decide +kernel) (by decide)) rfl
    (sb_cons (pc2 := 17) (sx_iload_n (show decode cX12_sheet 16 = .ok (.iload_n 2, 1) by decide +kernel) rfl) rfl
    (sb_cons (pc2 := 18) (sx_iconst (show decode cX12_sheet 17 = .ok (.iconst (-1), 1) by decide +kernel) (by decide)) rfl
    (sb_cons (pc2 := 21) (sx_icmp_eq (show decode cX12_sheet 18 = .ok (.if_icmp .eq 12, 3) by decide +kernel) (by decide)) rfl
    (sb_cons (pc2 := 22) (sx_iload_n (show decode cX12_sheet 21 = .ok (.iload_n 3, 1) by decide +kernel) rfl) rfl
    (sb_cons (pc2 := 24) (sx_bipush (show decode cX12_sheet 22 = .ok (.bipush 40, 2) by decide +kernel) (by decide)) rfl
    (sb_cons (pc2 := 27) (sx_icmp_le (show decode cX12_sheet 24 = .ok (.if_icmp .le 6, 3) by decide +kernel) (by decide)) rfl sb_nil))))))))))))))
  (ms_cons
  (sb_cons (pc2 := 29) (sx_bipush (show decode cX12_sheet 27 = .ok (.bipush (-2), 2) by decide +kernel) (by decide)) rfl
    (sb_cons (pc2 := 30) (sx_reti (show decode cX12_sheet 29 = .ok (.ireturn, 1) by decide +kernel) rfl) rfl sb_nil))
  (ms_cons
  (sb_cons (pc2 := 31) (sx_iload_n (show decode cX12_sheet 30 = .ok (.iload_n 2, 1) by decide +kernel) rfl) rfl
    (sb_cons (pc2 := 32) (sx_iconst (show decode cX12_sheet 31 = .ok (.iconst (-1), 1) by decide +kernel) (by decide)) rfl
    (sb_cons (pc2 := 35) (sx_icmp_eq (show decode cX12_sheet 32 = .ok (.if_icmp .eq 10, 3) by decide +kernel) (by decide)) rfl
    (sb_cons (pc2 := 36) (sx_iload_n (show decode cX12_sheet 35 = .ok (.iload_n 3, 1) by decide +kernel) rfl) rfl
    (sb_cons (pc2 := 39) (sx_if_ge (show decode cX12_sheet 36 = .ok (.ifCond .ge 6, 3) by decide +kernel) (by decide)) rfl
    (sb_cons (pc2 := 41) (sx_bipush (show decode cX12_sheet 39 = .ok (.bipush (-14), 2) by decide +kernel) (by decide)) rfl
    (sb_cons (pc2 := 42) (sx_reti (show decode cX12_sheet 41 = .ok (.ireturn, 1) by decide +kernel) rfl) rfl sb_nil)))))))
  (ms_cons
  (sb_cons (pc2 := 43) (sx_aload_n (show decode cX12_sheet 42 = .ok (.aload_n 0, 1) by decide +kernel) rfl) rfl
    (sb_cons (pc2 := 46) (sx_getf (show decode cX12_sheet 43 = .ok (.getfield 117, 3) by decide +kernel) rfl iX12 (by decide) wd_706) rfl
    (sb_cons (pc2 := 47) (sx_iload_n (show decode cX12_sheet 46 = .ok (.iload_n 1, 1) by decide +kernel) rfl) rfl
    (sb_cons (pc2 := 48) (sx_iload_n (show decode cX12_sheet 47 = .ok (.iload_n 2, 1) by decide +kernel) rfl) rfl
    (sb_cons (pc2 := 49) (sx_iast (show decode cX12_sheet 48 = .ok (.iastore, 1) by decide +kernel)) rfl
    (sb_cons (pc2 := 50) (sx_aload_n (show decode cX12_sheet 49 = .ok (.aload_n 0, 1) by decide +kernel) rfl) rfl
    (sb_cons (pc2 := 53) (sx_getf (show decode cX12_sheet 50 = .ok (.getfield 120, 3) by decide +kernel) rfl iX12 (by decide) wd_707) rfl
    (sb_cons (pc2 := 54) (sx_iload_n (show decode cX12_sheet 53 = .ok (.iload_n 1, 1) by decide +kernel) rfl) rfl
    (sb_cons (pc2 := 55) (sx_iload_n (show decode cX12_sheet 54 = .ok (.iload_n 2, 1) by decide +kernel) rfl) rfl
    (sb_cons (pc2 := 56) (sx_iconst (show decode cX12_sheet 55 = .ok (.iconst (-1), 1) by decide +kernel) (by decide)) rfl
    (sb_cons (pc2 := 59) (sx_icmp_ne (show decode cX12_sheet 56 = .ok (.if_icmp .ne 7, 3) by decide +kernel) (by decide)) rfl
    (sb_cons (pc2 := 60) (sx_iconst (show decode cX12_sheet 59 = .ok (.iconst 0, 1) by decide +kernel) (by decide)) rfl
    (sb_cons (pc2 := 63) (px_snd_goto (show decode cX12_sheet 60 = .ok (.goto 4, 3) by decide +kernel) (by decide)) rfl sb_nil)))))))))))))
  (ms_cons
  (sb_cons (pc2 := 64) (sx_iload_n (show decode cX12_sheet 63 = .ok (.iload_n 3, 1) by decide +kernel) rfl) rfl sb_nil)
  (ms_cons
  (sb_cons (pc2 := 65) (sx_iast (show decode cX12_sheet 64 = .ok (.iastore, 1) by decide +kernel)) rfl
    (sb_cons (pc2 := 67) (sx_bipush (show decode cX12_sheet 65 = .ok (.bipush 40, 2) by decide +kernel) (by decide)) rfl
    (sb_cons (pc2 := 68) (sx_iload_n (show decode cX12_sheet 67 = .ok (.iload_n 1, 1) by decide +kernel) rfl) rfl
    (sb_cons (pc2 := 69) (sx_imul (show decode cX12_sheet 68 = .ok (.imul, 1) by decide +kernel)) rfl
    (sb_cons (pc2 := 71) (sx_istore (show decode cX12_sheet 69 = .ok (.istore 4, 2) by decide +kernel)) rfl sb_nil)))))
  (ms_cons
  (sb_cons (pc2 := 73) (sx_iload (show decode cX12_sheet 71 = .ok (.iload 4, 2) by decide +kernel)) rfl
    (sb_cons (pc2 := 75) (sx_bipush (show decode cX12_sheet 73 = .ok (.bipush 40, 2) by decide +kernel) (by decide)) rfl
    (sb_cons (pc2 := 76) (sx_iload_n (show decode cX12_sheet 75 = .ok (.iload_n 1, 1) by decide +kernel) rfl) rfl
    (sb_cons (pc2 := 77) (sx_imul (show decode cX12_sheet 76 = .ok (.imul, 1) by decide +kernel)) rfl
    (sb_cons (pc2 := 79) (sx_bipush (show decode cX12_sheet 77 = .ok (.bipush 40, 2) by decide +kernel) (by decide)) rfl
    (sb_cons (pc2 := 80) (sx_iadd (show decode cX12_sheet 79 = .ok (.iadd, 1) by decide +kernel)) rfl
    (sb_cons (pc2 := 83) (sx_icmp_ge (show decode cX12_sheet 80 = .ok (.if_icmp .ge 25, 3) by decide +kernel) (by decide)) rfl
    (sb_cons (pc2 := 84) (sx_aload_n (show decode cX12_sheet 83 = .ok (.aload_n 0, 1) by decide +kernel) rfl) rfl
    (sb_cons (pc2 := 87) (sx_getf (show decode cX12_sheet 84 = .ok (.getfield 123, 3) by decide +kernel) rfl iX12 (by decide) wd_708) rfl
    (sb_cons (pc2 := 89) (sx_iload (show decode cX12_sheet 87 = .ok (.iload 4, 2) by decide +kernel)) rfl
    (sb_cons (pc2 := 90) (sx_iconst (show decode cX12_sheet 89 = .ok (.iconst 0, 1) by decide +kernel) (by decide)) rfl
    (sb_cons (pc2 := 91) (sx_iast (show decode cX12_sheet 90 = .ok (.iastore, 1) by decide +kernel)) rfl
    (sb_cons (pc2 := 92) (sx_aload_n (show decode cX12_sheet 91 = .ok (.aload_n 0, 1) by decide +kernel) rfl) rfl
    (sb_cons (pc2 := 95) (sx_getf (show decode cX12_sheet 92 = .ok (.getfield 126, 3) by decide +kernel) rfl iX12 (by decide) wd_709) rfl
    (sb_cons (pc2 := 97) (sx_iload (show decode cX12_sheet 95 = .ok (.iload 4, 2) by decide +kernel)) rfl
    (sb_cons (pc2 := 98) (sx_iconst (show decode cX12_sheet 97 = .ok (.iconst 0, 1) by decide +kernel) (by decide)) rfl
    (sb_cons (pc2 := 99) (sx_zast (show decode cX12_sheet 98 = .ok (.bastore, 1) by decide +kernel)) rfl
    (sb_cons (pc2 := 102) (sx_iinc (show decode cX12_sheet 99 = .ok (.iinc 4 1, 3) by decide +kernel) (by decide)) rfl
    (sb_cons (pc2 := 105) (px_snd_goto (show decode cX12_sheet 102 = .ok (.goto (-31), 3) by decide +kernel) (by decide)) rfl sb_nil)))))))))))))))))))
  (ms_cons
  (sb_cons (pc2 := 106) (sx_iconst (show decode cX12_sheet 105 = .ok (.iconst 1, 1) by decide +kernel) (by decide)) rfl
    (sb_cons (pc2 := 107) (sx_reti (show decode cX12_sheet 106 = .ok (.ireturn, 1) by decide +kernel) rfl) rfl sb_nil))
  ms_nil))))))))
def kX12_cell (X : px_X) : px_B := [(0, [], [px_iload 1, px_cS X 251 1, px_if1 (fun x => decide (x = 0)) 20, px_iload 3, px_push (.int (-40000)), px_push (.int 40000), px_cS X 165 3, px_if1 (fun x => decide (¬ x = 0)) 23], 20),
  (20, [false, false, false, false], [px_push (.int (-2)), px_reti], 23),
  (23, [true, true, true, true], [px_aload 0, px_getf 12 50, px_iload 1, px_iald 0, px_push (.int (-1)), px_if2 (fun x y => decide (¬ x = y)) 36, px_push (.int (-11)), px_reti], 36),
  (36, [true, true, true, true], [px_iload 2, px_push (.int 0), px_aload 0, px_getf 12 51, px_iload 1, px_iald 0, px_push (.int 1), (px_i2 fun x y => x - y), px_cS X 165 3, px_if1 (fun x => decide (¬ x = 0)) 55, px_push (.int (-12)), px_reti], 55),
  (55, [true, true, true, true], [px_aload 0, px_getf 12 52, px_push (.int 40), px_iload 1, (px_i2 fun x y => x * y), px_iload 2, (px_i2 fun x y => x + y), px_iload 3, px_iast 0, px_aload 0, px_getf 12 53, px_push (.int 40), px_iload 1, (px_i2 fun x y => x * y), px_iload 2, (px_i2 fun x y => x + y), px_push (.int 0), px_zast, px_push (.int 1), px_reti], 81)]
set_option maxRecDepth 100000 in
set_option maxHeartbeats 8000000 in
theorem sX12_cell (d : Nat) (X : px_X) : px_MS d X YX12_cell (kX12_cell X) :=
  (ms_cons
  (sb_cons (pc2 := 1) (sx_iload_n (show decode cX12_cell 0 = .ok (.iload_n 1, 1) by decide +kernel) rfl) rfl
    (sb_cons (pc2 := 4) (sx_cS (Y' := YX12_isSheet) rfl (show decode cX12_cell 1 = .ok (.invokestatic 165, 3) by decide +kernel) rfl (px_w3 wd_728 wd_729 wd_719) wd_727 ⟨by decide, by decide, by decide +kernel⟩ (by decide)) rfl
    (sb_cons (pc2 := 7) (sx_if_eq (show decode cX12_cell 4 = .ok (.ifCond .eq 16, 3) by decide +kernel) (by decide)) rfl
    (sb_cons (pc2 := 8) (sx_iload_n (show decode cX12_cell 7 = .ok (.iload_n 3, 1) by decide +kernel) rfl) rfl
    (sb_cons (pc2 := 11) (sx_ldcw (show decode cX12_cell 8 = .ok (.ldc_w 402, 3) by decide +kernel) wd_951) rfl
    (sb_cons (pc2 := 14) (sx_ldcw (show decode cX12_cell 11 = .ok (.ldc_w 403, 3) by decide +kernel) wd_952) rfl
    (sb_cons (pc2 := 17) (sx_cS (Y' := YX12_in) rfl (show decode cX12_cell 14 = .ok (.invokestatic 147, 3) by decide +kernel) rfl (px_w3 wd_717 wd_718 wd_719) wd_716 ⟨by decide, by decide, by decide +kernel⟩ (by decide)) rfl
    (sb_cons (pc2 := 20) (sx_if_ne (show decode cX12_cell 17 = .ok (.ifCond .ne 6, 3) by decide +kernel) (by decide)) rfl sb_nil))))))))
  (ms_cons
  (sb_cons (pc2 := 22) (sx_bipush (show decode cX12_cell 20 = .ok (.bipush (-2), 2) by decide +kernel) (by decide)) rfl
    (sb_cons (pc2 := 23) (sx_reti (show decode cX12_cell 22 = .ok (.ireturn, 1) by decide +kernel) rfl) rfl sb_nil))
  (ms_cons
  (sb_cons (pc2 := 24) (sx_aload_n (show decode cX12_cell 23 = .ok (.aload_n 0, 1) by decide +kernel) rfl) rfl
    (sb_cons (pc2 := 27) (sx_getf (show decode cX12_cell 24 = .ok (.getfield 117, 3) by decide +kernel) rfl iX12 (by decide) wd_706) rfl
    (sb_cons (pc2 := 28) (sx_iload_n (show decode cX12_cell 27 = .ok (.iload_n 1, 1) by decide +kernel) rfl) rfl
    (sb_cons (pc2 := 29) (sx_iald (show decode cX12_cell 28 = .ok (.iaload, 1) by decide +kernel)) rfl
    (sb_cons (pc2 := 30) (sx_iconst (show decode cX12_cell 29 = .ok (.iconst (-1), 1) by decide +kernel) (by decide)) rfl
    (sb_cons (pc2 := 33) (sx_icmp_ne (show decode cX12_cell 30 = .ok (.if_icmp .ne 6, 3) by decide +kernel) (by decide)) rfl
    (sb_cons (pc2 := 35) (sx_bipush (show decode cX12_cell 33 = .ok (.bipush (-11), 2) by decide +kernel) (by decide)) rfl
    (sb_cons (pc2 := 36) (sx_reti (show decode cX12_cell 35 = .ok (.ireturn, 1) by decide +kernel) rfl) rfl sb_nil))))))))
  (ms_cons
  (sb_cons (pc2 := 37) (sx_iload_n (show decode cX12_cell 36 = .ok (.iload_n 2, 1) by decide +kernel) rfl) rfl
    (sb_cons (pc2 := 38) (sx_iconst (show decode cX12_cell 37 = .ok (.iconst 0, 1) by decide +kernel) (by decide)) rfl
    (sb_cons (pc2 := 39) (sx_aload_n (show decode cX12_cell 38 = .ok (.aload_n 0, 1) by decide +kernel) rfl) rfl
    (sb_cons (pc2 := 42) (sx_getf (show decode cX12_cell 39 = .ok (.getfield 120, 3) by decide +kernel) rfl iX12 (by decide) wd_707) rfl
    (sb_cons (pc2 := 43) (sx_iload_n (show decode cX12_cell 42 = .ok (.iload_n 1, 1) by decide +kernel) rfl) rfl
    (sb_cons (pc2 := 44) (sx_iald (show decode cX12_cell 43 = .ok (.iaload, 1) by decide +kernel)) rfl
    (sb_cons (pc2 := 45) (sx_iconst (show decode cX12_cell 44 = .ok (.iconst 1, 1) by decide +kernel) (by decide)) rfl
    (sb_cons (pc2 := 46) (sx_isub (show decode cX12_cell 45 = .ok (.isub, 1) by decide +kernel)) rfl
    (sb_cons (pc2 := 49) (sx_cS (Y' := YX12_in) rfl (show decode cX12_cell 46 = .ok (.invokestatic 147, 3) by decide +kernel) rfl (px_w3 wd_717 wd_718 wd_719) wd_716 ⟨by decide, by decide, by decide +kernel⟩ (by decide)) rfl
    (sb_cons (pc2 := 52) (sx_if_ne (show decode cX12_cell 49 = .ok (.ifCond .ne 6, 3) by decide +kernel) (by decide)) rfl
    (sb_cons (pc2 := 54) (sx_bipush (show decode cX12_cell 52 = .ok (.bipush (-12), 2) by decide +kernel) (by decide)) rfl
    (sb_cons (pc2 := 55) (sx_reti (show decode cX12_cell 54 = .ok (.ireturn, 1) by decide +kernel) rfl) rfl sb_nil))))))))))))
  (ms_cons
  (sb_cons (pc2 := 56) (sx_aload_n (show decode cX12_cell 55 = .ok (.aload_n 0, 1) by decide +kernel) rfl) rfl
    (sb_cons (pc2 := 59) (sx_getf (show decode cX12_cell 56 = .ok (.getfield 123, 3) by decide +kernel) rfl iX12 (by decide) wd_708) rfl
    (sb_cons (pc2 := 61) (sx_bipush (show decode cX12_cell 59 = .ok (.bipush 40, 2) by decide +kernel) (by decide)) rfl
    (sb_cons (pc2 := 62) (sx_iload_n (show decode cX12_cell 61 = .ok (.iload_n 1, 1) by decide +kernel) rfl) rfl
    (sb_cons (pc2 := 63) (sx_imul (show decode cX12_cell 62 = .ok (.imul, 1) by decide +kernel)) rfl
    (sb_cons (pc2 := 64) (sx_iload_n (show decode cX12_cell 63 = .ok (.iload_n 2, 1) by decide +kernel) rfl) rfl
    (sb_cons (pc2 := 65) (sx_iadd (show decode cX12_cell 64 = .ok (.iadd, 1) by decide +kernel)) rfl
    (sb_cons (pc2 := 66) (sx_iload_n (show decode cX12_cell 65 = .ok (.iload_n 3, 1) by decide +kernel) rfl) rfl
    (sb_cons (pc2 := 67) (sx_iast (show decode cX12_cell 66 = .ok (.iastore, 1) by decide +kernel)) rfl
    (sb_cons (pc2 := 68) (sx_aload_n (show decode cX12_cell 67 = .ok (.aload_n 0, 1) by decide +kernel) rfl) rfl
    (sb_cons (pc2 := 71) (sx_getf (show decode cX12_cell 68 = .ok (.getfield 126, 3) by decide +kernel) rfl iX12 (by decide) wd_709) rfl
    (sb_cons (pc2 := 73) (sx_bipush (show decode cX12_cell 71 = .ok (.bipush 40, 2) by decide +kernel) (by decide)) rfl
    (sb_cons (pc2 := 74) (sx_iload_n (show decode cX12_cell 73 = .ok (.iload_n 1, 1) by decide +kernel) rfl) rfl
    (sb_cons (pc2 := 75) (sx_imul (show decode cX12_cell 74 = .ok (.imul, 1) by decide +kernel)) rfl
    (sb_cons (pc2 := 76) (sx_iload_n (show decode cX12_cell 75 = .ok (.iload_n 2, 1) by decide +kernel) rfl) rfl
    (sb_cons (pc2 := 77) (sx_iadd (show decode cX12_cell 76 = .ok (.iadd, 1) by decide +kernel)) rfl
    (sb_cons (pc2 := 78) (sx_iconst (show decode cX12_cell 77 = .ok (.iconst 0, 1) by decide +kernel) (by decide)) rfl
    (sb_cons (pc2 := 79) (sx_zast (show decode cX12_cell 78 = .ok (.bastore, 1) by decide +kernel)) rfl
    (sb_cons (pc2 := 80) (sx_iconst (show decode cX12_cell 79 = .ok (.iconst 1, 1) by decide +kernel) (by decide)) rfl
    (sb_cons (pc2 := 81) (sx_reti (show decode cX12_cell 80 = .ok (.ireturn, 1) by decide +kernel) rfl) rfl sb_nil))))))))))))))))))))
  ms_nil)))))
def kX12_none (X : px_X) : px_B := [(0, [], [px_iload 1, px_cS X 251 1, px_if1 (fun x => decide (¬ x = 0)) 10, px_push (.int (-2)), px_reti], 10),
  (10, [true, true, true], [px_aload 0, px_getf 12 50, px_iload 1, px_iald 0, px_push (.int (-1)), px_if2 (fun x y => decide (x = y)) 33, px_aload 0, px_getf 12 50, px_iload 1, px_iald 0, px_push (.int 2), px_if2 (fun x y => decide (x = y)) 33, px_push (.int (-13)), px_reti], 33),
  (33, [true, true, true], [px_aload 0, px_getf 12 50, px_iload 1, px_iald 0, px_push (.int (-1)), px_if2 (fun x y => decide (¬ x = y)) 46, px_push (.int (-11)), px_reti], 46),
  (46, [true, true, true], [px_iload 2, px_push (.int 0), px_aload 0, px_getf 12 51, px_iload 1, px_iald 0, px_push (.int 1), (px_i2 fun x y => x - y), px_cS X 165 3, px_if1 (fun x => decide (¬ x = 0)) 65, px_push (.int (-12)), px_reti], 65),
  (65, [true, true, true], [px_aload 0, px_getf 12 53, px_push (.int 40), px_iload 1, (px_i2 fun x y => x * y), px_iload 2, (px_i2 fun x y => x + y), px_push (.int 1), px_zast, px_push (.int 1), px_reti], 79)]
set_option maxRecDepth 100000 in
set_option maxHeartbeats 8000000 in
theorem sX12_none (d : Nat) (X : px_X) : px_MS d X YX12_none (kX12_none X) :=
  (ms_cons
  (sb_cons (pc2 := 1) (sx_iload_n (show decode cX12_none 0 = .ok (.iload_n 1, 1) by decide +kernel) rfl) rfl
    (sb_cons (pc2 := 4) (sx_cS (Y' := YX12_isSheet) rfl (show decode cX12_none 1 = .ok (.invokestatic 165, 3) by decide +kernel) rfl (px_w3 wd_728 wd_729 wd_719) wd_727 ⟨by decide, by decide, by decide +kernel⟩ (by decide)) rfl
    (sb_cons (pc2 := 7) (sx_if_ne (show decode cX12_none 4 = .ok (.ifCond .ne 6, 3) by decide +kernel) (by decide)) rfl
    (sb_cons (pc2 := 9) (sx_bipush (show decode cX12_none 7 = .ok (.bipush (-2), 2) by decide +kernel) (by decide)) rfl
    (sb_cons (pc2 := 10) (sx_reti (show decode cX12_none 9 = .ok (.ireturn, 1) by decide +kernel) rfl) rfl sb_nil)))))
  (ms_cons
  (sb_cons (pc2 := 11) (sx_aload_n (show decode cX12_none 10 = .ok (.aload_n 0, 1) by decide +kernel) rfl) rfl
    (sb_cons (pc2 := 14) (sx_getf (show decode cX12_none 11 = .ok (.getfield 117, 3) by decide +kernel) rfl iX12 (by decide) wd_706) rfl
    (sb_cons (pc2 := 15) (sx_iload_n (show decode cX12_none 14 = .ok (.iload_n 1, 1) by decide +kernel) rfl) rfl
    (sb_cons (pc2 := 16) (sx_iald (show decode cX12_none 15 = .ok (.iaload, 1) by decide +kernel)) rfl
    (sb_cons (pc2 := 17) (sx_iconst (show decode cX12_none 16 = .ok (.iconst (-1), 1) by decide +kernel) (by decide)) rfl
    (sb_cons (pc2 := 20) (sx_icmp_eq (show decode cX12_none 17 = .ok (.if_icmp .eq 16, 3) by decide +kernel) (by decide)) rfl
    (sb_cons (pc2 := 21) (sx_aload_n (show decode cX12_none 20 = .ok (.aload_n 0, 1) by decide +kernel) rfl) rfl
    (sb_cons (pc2 := 24) (sx_getf (show decode cX12_none 21 = .ok (.getfield 117, 3) by decide +kernel) rfl iX12 (by decide) wd_706) rfl
    (sb_cons (pc2 := 25) (sx_iload_n (show decode cX12_none 24 = .ok (.iload_n 1, 1) by decide +kernel) rfl) rfl
    (sb_cons (pc2 := 26) (sx_iald (show decode cX12_none 25 = .ok (.iaload, 1) by decide +kernel)) rfl
    (sb_cons (pc2 := 27) (sx_iconst (show decode cX12_none 26 = .ok (.iconst 2, 1) by decide +kernel) (by decide)) rfl
    (sb_cons (pc2 := 30) (sx_icmp_eq (show decode cX12_none 27 = .ok (.if_icmp .eq 6, 3) by decide +kernel) (by decide)) rfl
    (sb_cons (pc2 := 32) (sx_bipush (show decode cX12_none 30 = .ok (.bipush (-13), 2) by decide +kernel) (by decide)) rfl
    (sb_cons (pc2 := 33) (sx_reti (show decode cX12_none 32 = .ok (.ireturn, 1) by decide +kernel) rfl) rfl sb_nil))))))))))))))
  (ms_cons
  (sb_cons (pc2 := 34) (sx_aload_n (show decode cX12_none 33 = .ok (.aload_n 0, 1) by decide +kernel) rfl) rfl
    (sb_cons (pc2 := 37) (sx_getf (show decode cX12_none 34 = .ok (.getfield 117, 3) by decide +kernel) rfl iX12 (by decide) wd_706) rfl
    (sb_cons (pc2 := 38) (sx_iload_n (show decode cX12_none 37 = .ok (.iload_n 1, 1) by decide +kernel) rfl) rfl
    (sb_cons (pc2 := 39) (sx_iald (show decode cX12_none 38 = .ok (.iaload, 1) by decide +kernel)) rfl
    (sb_cons (pc2 := 40) (sx_iconst (show decode cX12_none 39 = .ok (.iconst (-1), 1) by decide +kernel) (by decide)) rfl
    (sb_cons (pc2 := 43) (sx_icmp_ne (show decode cX12_none 40 = .ok (.if_icmp .ne 6, 3) by decide +kernel) (by decide)) rfl
    (sb_cons (pc2 := 45) (sx_bipush (show decode cX12_none 43 = .ok (.bipush (-11), 2) by decide +kernel) (by decide)) rfl
    (sb_cons (pc2 := 46) (sx_reti (show decode cX12_none 45 = .ok (.ireturn, 1) by decide +kernel) rfl) rfl sb_nil))))))))
  (ms_cons
  (sb_cons (pc2 := 47) (sx_iload_n (show decode cX12_none 46 = .ok (.iload_n 2, 1) by decide +kernel) rfl) rfl
    (sb_cons (pc2 := 48) (sx_iconst (show decode cX12_none 47 = .ok (.iconst 0, 1) by decide +kernel) (by decide)) rfl
    (sb_cons (pc2 := 49) (sx_aload_n (show decode cX12_none 48 = .ok (.aload_n 0, 1) by decide +kernel) rfl) rfl
    (sb_cons (pc2 := 52) (sx_getf (show decode cX12_none 49 = .ok (.getfield 120, 3) by decide +kernel) rfl iX12 (by decide) wd_707) rfl
    (sb_cons (pc2 := 53) (sx_iload_n (show decode cX12_none 52 = .ok (.iload_n 1, 1) by decide +kernel) rfl) rfl
    (sb_cons (pc2 := 54) (sx_iald (show decode cX12_none 53 = .ok (.iaload, 1) by decide +kernel)) rfl
    (sb_cons (pc2 := 55) (sx_iconst (show decode cX12_none 54 = .ok (.iconst 1, 1) by decide +kernel) (by decide)) rfl
    (sb_cons (pc2 := 56) (sx_isub (show decode cX12_none 55 = .ok (.isub, 1) by decide +kernel)) rfl
    (sb_cons (pc2 := 59) (sx_cS (Y' := YX12_in) rfl (show decode cX12_none 56 = .ok (.invokestatic 147, 3) by decide +kernel) rfl (px_w3 wd_717 wd_718 wd_719) wd_716 ⟨by decide, by decide, by decide +kernel⟩ (by decide)) rfl
    (sb_cons (pc2 := 62) (sx_if_ne (show decode cX12_none 59 = .ok (.ifCond .ne 6, 3) by decide +kernel) (by decide)) rfl
    (sb_cons (pc2 := 64) (sx_bipush (show decode cX12_none 62 = .ok (.bipush (-12), 2) by decide +kernel) (by decide)) rfl
    (sb_cons (pc2 := 65) (sx_reti (show decode cX12_none 64 = .ok (.ireturn, 1) by decide +kernel) rfl) rfl sb_nil))))))))))))
  (ms_cons
  (sb_cons (pc2 := 66) (sx_aload_n (show decode cX12_none 65 = .ok (.aload_n 0, 1) by decide +kernel) rfl) rfl
    (sb_cons (pc2 := 69) (sx_getf (show decode cX12_none 66 = .ok (.getfield 126, 3) by decide +kernel) rfl iX12 (by decide) wd_709) rfl
    (sb_cons (pc2 := 71) (sx_bipush (show decode cX12_none 69 = .ok (.bipush 40, 2) by decide +kernel) (by decide)) rfl
    (sb_cons (pc2 := 72) (sx_iload_n (show decode cX12_none 71 = .ok (.iload_n 1, 1) by decide +kernel) rfl) rfl
    (sb_cons (pc2 := 73) (sx_imul (show decode cX12_none 72 = .ok (.imul, 1) by decide +kernel)) rfl
    (sb_cons (pc2 := 74) (sx_iload_n (show decode cX12_none 73 = .ok (.iload_n 2, 1) by decide +kernel) rfl) rfl
    (sb_cons (pc2 := 75) (sx_iadd (show decode cX12_none 74 = .ok (.iadd, 1) by decide +kernel)) rfl
    (sb_cons (pc2 := 76) (sx_iconst (show decode cX12_none 75 = .ok (.iconst 1, 1) by decide +kernel) (by decide)) rfl
    (sb_cons (pc2 := 77) (sx_zast (show decode cX12_none 76 = .ok (.bastore, 1) by decide +kernel)) rfl
    (sb_cons (pc2 := 78) (sx_iconst (show decode cX12_none 77 = .ok (.iconst 1, 1) by decide +kernel) (by decide)) rfl
    (sb_cons (pc2 := 79) (sx_reti (show decode cX12_none 78 = .ok (.ireturn, 1) by decide +kernel) rfl) rfl sb_nil)))))))))))
  ms_nil)))))
def kX12_taken (X : px_X) : px_B := [(0, [], [px_iload 2, px_push (.int 0), px_push (.int 5), px_cS X 165 3, px_if1 (fun x => decide (¬ x = 0)) 12, px_push (.int (-2)), px_reti], 12),
  (12, [true, true, true], [px_aload 0, px_iload 1, px_cV X 167 2 12, px_if1 (fun x => decide (¬ x = 0)) 23, px_push (.int (-11)), px_reti], 23),
  (23, [true, true, true], [px_aload 0, px_getf 12 14, px_iload 1, px_iald 0, px_iload 2, px_cS X 190 2, px_if1 (fun x => decide (x = 0)) 45, px_aload 0, px_getf 12 15, px_iload 1, px_iald 0, px_goto 47], 45),
  (45, [false, false, false], [px_push (.int (-13))], 47),
  (47, [false, false, false], [px_reti], 48)]
set_option maxRecDepth 100000 in
set_option maxHeartbeats 8000000 in
theorem sX12_taken (d : Nat) (X : px_X) : px_MS d X YX12_taken (kX12_taken X) :=
  (ms_cons
  (sb_cons (pc2 := 1) (sx_iload_n (show decode cX12_taken 0 = .ok (.iload_n 2, 1) by decide +kernel) rfl) rfl
    (sb_cons (pc2 := 2) (sx_iconst (show decode cX12_taken 1 = .ok (.iconst 0, 1) by decide +kernel) (by decide)) rfl
    (sb_cons (pc2 := 3) (sx_iconst (show decode cX12_taken 2 = .ok (.iconst 5, 1) by decide +kernel) (by decide)) rfl
    (sb_cons (pc2 := 6) (sx_cS (Y' := YX12_in) rfl (show decode cX12_taken 3 = .ok (.invokestatic 147, 3) by decide +kernel) rfl (px_w3 wd_717 wd_718 wd_719) wd_716 ⟨by decide, by decide, by decide +kernel⟩ (by decide)) rfl
    (sb_cons (pc2 := 9) (sx_if_ne (show decode cX12_taken 6 = .ok (.ifCond .ne 6, 3) by decide +kernel) (by decide)) rfl
    (sb_cons (pc2 := 11) (sx_bipush (show decode cX12_taken 9 = .ok (.bipush (-2), 2) by decide +kernel) (by decide)) rfl
    (sb_cons (pc2 := 12) (sx_reti (show decode cX12_taken 11 = .ok (.ireturn, 1) by decide +kernel) rfl) rfl sb_nil)))))))
  (ms_cons
  (sb_cons (pc2 := 13) (sx_aload_n (show decode cX12_taken 12 = .ok (.aload_n 0, 1) by decide +kernel) rfl) rfl
    (sb_cons (pc2 := 14) (sx_iload_n (show decode cX12_taken 13 = .ok (.iload_n 1, 1) by decide +kernel) rfl) rfl
    (sb_cons (pc2 := 17) (sx_cV (Y' := YX12_isFind) (q := (RX12, TX12, 69)) rfl (show decode cX12_taken 14 = .ok (.invokevirtual 196, 3) by decide +kernel) rfl rfl (px_w4 wd_761 wd_762 wd_763 wd_719) wd_760 ⟨by decide, by decide, by decide +kernel⟩ (by decide)) rfl
    (sb_cons (pc2 := 20) (sx_if_ne (show decode cX12_taken 17 = .ok (.ifCond .ne 6, 3) by decide +kernel) (by decide)) rfl
    (sb_cons (pc2 := 22) (sx_bipush (show decode cX12_taken 20 = .ok (.bipush (-11), 2) by decide +kernel) (by decide)) rfl
    (sb_cons (pc2 := 23) (sx_reti (show decode cX12_taken 22 = .ok (.ireturn, 1) by decide +kernel) rfl) rfl sb_nil))))))
  (ms_cons
  (sb_cons (pc2 := 24) (sx_aload_n (show decode cX12_taken 23 = .ok (.aload_n 0, 1) by decide +kernel) rfl) rfl
    (sb_cons (pc2 := 27) (sx_getf (show decode cX12_taken 24 = .ok (.getfield 42, 3) by decide +kernel) rfl iX12 (by decide) wd_681) rfl
    (sb_cons (pc2 := 28) (sx_iload_n (show decode cX12_taken 27 = .ok (.iload_n 1, 1) by decide +kernel) rfl) rfl
    (sb_cons (pc2 := 29) (sx_iald (show decode cX12_taken 28 = .ok (.iaload, 1) by decide +kernel)) rfl
    (sb_cons (pc2 := 30) (sx_iload_n (show decode cX12_taken 29 = .ok (.iload_n 2, 1) by decide +kernel) rfl) rfl
    (sb_cons (pc2 := 33) (sx_cS (Y' := YX12_isUnder) rfl (show decode cX12_taken 30 = .ok (.invokestatic 212, 3) by decide +kernel) rfl (px_w3 wd_778 wd_779 wd_719) wd_777 ⟨by decide, by decide, by decide +kernel⟩ (by decide)) rfl
    (sb_cons (pc2 := 36) (sx_if_eq (show decode cX12_taken 33 = .ok (.ifCond .eq 12, 3) by decide +kernel) (by decide)) rfl
    (sb_cons (pc2 := 37) (sx_aload_n (show decode cX12_taken 36 = .ok (.aload_n 0, 1) by decide +kernel) rfl) rfl
    (sb_cons (pc2 := 40) (sx_getf (show decode cX12_taken 37 = .ok (.getfield 45, 3) by decide +kernel) rfl iX12 (by decide) wd_682) rfl
    (sb_cons (pc2 := 41) (sx_iload_n (show decode cX12_taken 40 = .ok (.iload_n 1, 1) by decide +kernel) rfl) rfl
    (sb_cons (pc2 := 42) (sx_iald (show decode cX12_taken 41 = .ok (.iaload, 1) by decide +kernel)) rfl
    (sb_cons (pc2 := 45) (px_snd_goto (show decode cX12_taken 42 = .ok (.goto 5, 3) by decide +kernel) (by decide)) rfl sb_nil))))))))))))
  (ms_cons
  (sb_cons (pc2 := 47) (sx_bipush (show decode cX12_taken 45 = .ok (.bipush (-13), 2) by decide +kernel) (by decide)) rfl sb_nil)
  (ms_cons
  (sb_cons (pc2 := 48) (sx_reti (show decode cX12_taken 47 = .ok (.ireturn, 1) by decide +kernel) rfl) rfl sb_nil)
  ms_nil)))))
