/-! the code of methods as pure instructions (written by wip/whole/gen.py) -/
def kX12_isDigit (X : px_X) : px_B := [(0, [], [px_iload 0, px_push (.int 48), px_if2 (fun x y => decide (x < y)) 16, px_iload 0, px_push (.int 57), px_if2 (fun x y => decide (y < x)) 16, px_push (.int 1), px_goto 17], 16),
  (16, [false], [px_push (.int 0)], 17),
  (17, [false], [px_retz], 18)]
set_option maxRecDepth 100000 in
set_option maxHeartbeats 8000000 in
theorem sX12_isDigit (d : Nat) (X : px_X) : px_MS d X YX12_isDigit (kX12_isDigit X) :=
  (ms_cons
  (sb_cons (pc2 := 1) (sx_iload_n (show decode cX12_isDigit 0 = .ok (.iload_n 0, 1) by decide +kernel) rfl) rfl
    (sb_cons (pc2 := 3) (sx_bipush (show decode cX12_isDigit 1 = .ok (.bipush 48, 2) by decide +kernel) (by decide)) rfl
    (sb_cons (pc2 := 6) (sx_icmp_lt (show decode cX12_isDigit 3 = .ok (.if_icmp .lt 13, 3) by decide +kernel) (by decide)) rfl
    (sb_cons (pc2 := 7) (sx_iload_n (show decode cX12_isDigit 6 = .ok (.iload_n 0, 1) by decide +kernel) rfl) rfl
    (sb_cons (pc2 := 9) (sx_bipush (show decode cX12_isDigit 7 = .ok (.bipush 57, 2) by decide +kernel) (by decide)) rfl
    (sb_cons (pc2 := 12) (sx_icmp_gt (show decode cX12_isDigit 9 = .ok (.if_icmp .gt 7, 3) by decide +kernel) (by decide)) rfl
    (sb_cons (pc2 := 13) (sx_iconst (show decode cX12_isDigit 12 = .ok (.iconst 1, 1) by decide +kernel) (by decide)) rfl
    (sb_cons (pc2 := 16) (px_snd_goto (show decode cX12_isDigit 13 = .ok (.goto 4, 3) by decide +kernel) (by decide)) rfl sb_nil))))))))
  (ms_cons
  (sb_cons (pc2 := 17) (sx_iconst (show decode cX12_isDigit 16 = .ok (.iconst 0, 1) by decide +kernel) (by decide)) rfl sb_nil)
  (ms_cons
  (sb_cons (pc2 := 18) (sx_retz (show decode cX12_isDigit 17 = .ok (.ireturn, 1) by decide +kernel) rfl) rfl sb_nil)
  ms_nil)))
def kX12_next (X : px_X) : px_B := [(0, [], [px_aload 0, px_aload 0, px_getf 12 57, px_cV X 208 2 12, px_push (.int 32), px_if2 (fun x y => decide (x = y)) 26, px_aload 0, px_aload 0, px_getf 12 57, px_cV X 208 2 12, px_push (.int 10), px_if2 (fun x y => decide (¬ x = y)) 39], 26),
  (26, [true, false, false], [px_aload 0, px_dup, px_getf 12 57, px_push (.int 1), (px_i2 fun x y => x + y), px_puti 12 57, px_goto 0], 39),
  (39, [true, false, false], [px_aload 0, px_aload 0, px_getf 12 57, px_puti 12 58, px_aload 0, px_aload 0, px_getf 12 57, px_cV X 208 2 12, px_istore 1, px_iload 1, px_push (.int (-1)), px_if2 (fun x y => decide (¬ x = y)) 69, px_aload 0, px_push (.int 0), px_puti 12 59, px_goto 174], 69),
  (69, [true, true, false], [px_iload 1, px_cS X 209 1, px_if1 (fun x => decide (x = 0)) 83, px_aload 0, px_cV X 213 1 12, px_goto 174], 83),
  (83, [true, true, false], [px_iload 1, px_cS X 210 1, px_if1 (fun x => decide (x = 0)) 97, px_aload 0, px_cV X 212 1 12, px_goto 174], 97),
  (97, [true, true, false], [px_iload 1, px_push (.int 40), px_if2 (fun x y => decide (x = y)) 145, px_iload 1, px_push (.int 41), px_if2 (fun x y => decide (x = y)) 145, px_iload 1, px_push (.int 59), px_if2 (fun x y => decide (x = y)) 145, px_iload 1, px_push (.int 43), px_if2 (fun x y => decide (x = y)) 145, px_iload 1, px_push (.int 45), px_if2 (fun x y => decide (x = y)) 145, px_iload 1, px_push (.int 42), px_if2 (fun x y => decide (x = y)) 145, px_iload 1, px_push (.int 60), px_if2 (fun x y => decide (x = y)) 145, px_iload 1, px_push (.int 61), px_if2 (fun x y => decide (¬ x = y)) 149], 145),
  (145, [true, true, false], [px_push (.int 1), px_goto 150], 149),
  (149, [true, true, false], [px_push (.int 0)], 150),
  (150, [true, true, false], [px_istore 2, px_aload 0, px_iload 2, px_if1 (fun x => decide (x = 0)) 160, px_iload 1, px_goto 161], 160),
  (160, [true, false, false], [px_push (.int 2)], 161),
  (161, [true, false, false], [px_puti 12 59, px_aload 0, px_dup, px_getf 12 57, px_push (.int 1), (px_i2 fun x y => x + y), px_puti 12 57], 174),
  (174, [false, false, false], [px_retv], 175)]
set_option maxRecDepth 100000 in
set_option maxHeartbeats 8000000 in
theorem sX12_next (d : Nat) (X : px_X) : px_MS d X YX12_next (kX12_next X) :=
  (ms_cons
  (sb_cons (pc2 := 1) (sx_aload_n (show decode cX12_next 0 = .ok (.aload_n 0, 1) by decide +kernel) rfl) rfl
    (sb_cons (pc2 := 2) (sx_aload_n (show decode cX12_next 1 = .ok (.aload_n 0, 1) by decide +kernel) rfl) rfl
    (sb_cons (pc2 := 5) (sx_getf (show decode cX12_next 2 = .ok (.getfield 269, 3) by decide +kernel) rfl iX12 (by decide) wd_830) rfl
    (sb_cons (pc2 := 8) (sx_cV (Y' := YX12_byteAt) (q := (RX12, TX12, 69)) rfl (show decode cX12_next 5 = .ok (.invokevirtual 272, 3) by decide +kernel) rfl rfl (px_w4 wd_832 wd_833 wd_834 wd_719) wd_831 ⟨by decide, by decide, by decide +kernel⟩ (by decide)) rfl
    (sb_cons (pc2 := 10) (sx_bipush (show decode cX12_next 8 = .ok (.bipush 32, 2) by decide +kernel) (by decide)) rfl
    (sb_cons (pc2 := 13) (sx_icmp_eq (show decode cX12_next 10 = .ok (.if_icmp .eq 16, 3) by decide +kernel) (by decide)) rfl
    (sb_cons (pc2 := 14) (sx_aload_n (show decode cX12_next 13 = .ok (.aload_n 0, 1) by decide +kernel) rfl) rfl
    (sb_cons (pc2 := 15) (sx_aload_n (show decode cX12_next 14 = .ok (.aload_n 0, 1) by decide +kernel) rfl) rfl
    (sb_cons (pc2 := 18) (sx_getf (show decode cX12_next 15 = .ok (.getfield 269, 3) by decide +kernel) rfl iX12 (by decide) wd_830) rfl
    (sb_cons (pc2 := 21) (sx_cV (Y' := YX12_byteAt) (q := (RX12, TX12, 69)) rfl (show decode cX12_next 18 = .ok (.invokevirtual 272, 3) by decide +kernel) rfl rfl (px_w4 wd_832 wd_833 wd_834 wd_719) wd_831 ⟨by decide, by decide, by decide +kernel⟩ (by decide)) rfl
    (sb_cons (pc2 := 23) (sx_bipush (show decode cX12_next 21 = .ok (.bipush 10, 2) by decide +kernel) (by decide)) rfl
    (sb_cons (pc2 := 26) (sx_icmp_ne (show decode cX12_next 23 = .ok (.if_icmp .ne 16, 3) by decide +kernel) (by decide)) rfl sb_nil))))))))))))
  (ms_cons
  (sb_cons (pc2 := 27) (sx_aload_n (show decode cX12_next 26 = .ok (.aload_n 0, 1) by decide +kernel) rfl) rfl
    (sb_cons (pc2 := 28) (sx_dup (show decode cX12_next 27 = .ok (.dup, 1) by decide +kernel)) rfl
    (sb_cons (pc2 := 31) (sx_getf (show decode cX12_next 28 = .ok (.getfield 269, 3) by decide +kernel) rfl iX12 (by decide) wd_830) rfl
    (sb_cons (pc2 := 32) (sx_iconst (show decode cX12_next 31 = .ok (.iconst 1, 1) by decide +kernel) (by decide)) rfl
    (sb_cons (pc2 := 33) (sx_iadd (show decode cX12_next 32 = .ok (.iadd, 1) by decide +kernel)) rfl
    (sb_cons (pc2 := 36) (sx_puti (show decode cX12_next 33 = .ok (.putfield 269, 3) by decide +kernel) rfl iX12 tyX12_ok nmX12 (by decide) wd_830 rfl (Or.inl rfl)) rfl
    (sb_cons (pc2 := 39) (px_snd_goto (show decode cX12_next 36 = .ok (.goto (-36), 3) by decide +kernel) (by decide)) rfl sb_nil)))))))
  (ms_cons
  (sb_cons (pc2 := 40) (sx_aload_n (show decode cX12_next 39 = .ok (.aload_n 0, 1) by decide +kernel) rfl) rfl
    (sb_cons (pc2 := 41) (sx_aload_n (show decode cX12_next 40 = .ok (.aload_n 0, 1) by decide +kernel) rfl) rfl
    (sb_cons (pc2 := 44) (sx_getf (show decode cX12_next 41 = .ok (.getfield 269, 3) by decide +kernel) rfl iX12 (by decide) wd_830) rfl
    (sb_cons (pc2 := 47) (sx_puti (show decode cX12_next 44 = .ok (.putfield 275, 3) by decide +kernel) rfl iX12 tyX12_ok nmX12 (by decide) wd_835 rfl (Or.inl rfl)) rfl
    (sb_cons (pc2 := 48) (sx_aload_n (show decode cX12_next 47 = .ok (.aload_n 0, 1) by decide +kernel) rfl) rfl
    (sb_cons (pc2 := 49) (sx_aload_n (show decode cX12_next 48 = .ok (.aload_n 0, 1) by decide +kernel) rfl) rfl
    (sb_cons (pc2 := 52) (sx_getf (show decode cX12_next 49 = .ok (.getfield 269, 3) by decide +kernel) rfl iX12 (by decide) wd_830) rfl
    (sb_cons (pc2 := 55) (sx_cV (Y' := YX12_byteAt) (q := (RX12, TX12, 69)) rfl (show decode cX12_next 52 = .ok (.invokevirtual 272, 3) by decide +kernel) rfl rfl (px_w4 wd_832 wd_833 wd_834 wd_719) wd_831 ⟨by decide, by decide, by decide +kernel⟩ (by decide)) rfl
    (sb_cons (pc2 := 56) (sx_istore_n (show decode cX12_next 55 = .ok (.istore_n 1, 1) by decide +kernel) rfl) rfl
    (sb_cons (pc2 := 57) (sx_iload_n (show decode cX12_next 56 = .ok (.iload_n 1, 1) by decide +kernel) rfl) rfl
    (sb_cons (pc2 := 58) (sx_iconst (show decode cX12_next 57 = .ok (.iconst (-1), 1) by decide +kernel) (by decide)) rfl
    (sb_cons (pc2 := 61) (sx_icmp_ne (show decode cX12_next 58 = .ok (.if_icmp .ne 11, 3) by decide +kernel) (by decide)) rfl
    (sb_cons (pc2 := 62) (sx_aload_n (show decode cX12_next 61 = .ok (.aload_n 0, 1) by decide +kernel) rfl) rfl
    (sb_cons (pc2 := 63) (sx_iconst (show decode cX12_next 62 = .ok (.iconst 0, 1) by decide +kernel) (by decide)) rfl
    (sb_cons (pc2 := 66) (sx_puti (show decode cX12_next 63 = .ok (.putfield 278, 3) by decide +kernel) rfl iX12 tyX12_ok nmX12 (by decide) wd_836 rfl (Or.inl rfl)) rfl
    (sb_cons (pc2 := 69) (px_snd_goto (show decode cX12_next 66 = .ok (.goto 108, 3) by decide +kernel) (by decide)) rfl sb_nil))))))))))))))))
  (ms_cons
  (sb_cons (pc2 := 70) (sx_iload_n (show decode cX12_next 69 = .ok (.iload_n 1, 1) by decide +kernel) rfl) rfl
    (sb_cons (pc2 := 73) (sx_cS (Y' := YX12_isLetter) rfl (show decode cX12_next 70 = .ok (.invokestatic 281, 3) by decide +kernel) rfl (px_w3 wd_838 wd_839 wd_719) wd_837 ⟨by decide, by decide, by decide +kernel⟩ (by decide)) rfl
    (sb_cons (pc2 := 76) (sx_if_eq (show decode cX12_next 73 = .ok (.ifCond .eq 10, 3) by decide +kernel) (by decide)) rfl
    (sb_cons (pc2 := 77) (sx_aload_n (show decode cX12_next 76 = .ok (.aload_n 0, 1) by decide +kernel) rfl) rfl
    (sb_cons (pc2 := 80) (sx_cV (Y' := YX12_word) (q := (RX12, TX12, 69)) rfl (show decode cX12_next 77 = .ok (.invokevirtual 284, 3) by decide +kernel) rfl rfl (px_w4 wd_841 wd_842 wd_843 wd_719) wd_840 ⟨by decide, by decide, by decide +kernel⟩ (by decide)) rfl
    (sb_cons (pc2 := 83) (px_snd_goto (show decode cX12_next 80 = .ok (.goto 94, 3) by decide +kernel) (by decide)) rfl sb_nil))))))
  (ms_cons
  (sb_cons (pc2 := 84) (sx_iload_n (show decode cX12_next 83 = .ok (.iload_n 1, 1) by decide +kernel) rfl) rfl
    (sb_cons (pc2 := 87) (sx_cS (Y' := YX12_isDigit) rfl (show decode cX12_next 84 = .ok (.invokestatic 287, 3) by decide +kernel) rfl (px_w3 wd_845 wd_846 wd_719) wd_844 ⟨by decide, by decide, by decide +kernel⟩ (by decide)) rfl
    (sb_cons (pc2 := 90) (sx_if_eq (show decode cX12_next 87 = .ok (.ifCond .eq 10, 3) by decide +kernel) (by decide)) rfl
    (sb_cons (pc2 := 91) (sx_aload_n (show decode cX12_next 90 = .ok (.aload_n 0, 1) by decide +kernel) rfl) rfl
    (sb_cons (pc2 := 94) (sx_cV (Y' := YX12_number) (q := (RX12, TX12, 69)) rfl (show decode cX12_next 91 = .ok (.invokevirtual 290, 3) by decide +kernel) rfl rfl (px_w4 wd_848 wd_849 wd_850 wd_719) wd_847 ⟨by decide, by decide, by decide +kernel⟩ (by decide)) rfl
    (sb_cons (pc2 := 97) (px_snd_goto (show decode cX12_next 94 = .ok (.goto 80, 3) by decide +kernel) (by decide)) rfl sb_nil))))))
  (ms_cons
  (sb_cons (pc2 := 98) (sx_iload_n (show decode cX12_next 97 = .ok (.iload_n 1, 1) by decide +kernel) rfl) rfl
    (sb_cons (pc2 := 100) (sx_bipush (show decode cX12_next 98 = .ok (.bipush 40, 2) by decide +kernel) (by decide)) rfl
    (sb_cons (pc2 := 103) (sx_icmp_eq (show decode cX12_next 100 = .ok (.if_icmp .eq 45, 3) by decide +kernel) (by decide)) rfl
    (sb_cons (pc2 := 104) (sx_iload_n (show decode cX12_next 103 = .ok (.iload_n 1, 1) by decide +kernel) rfl) rfl
    (sb_cons (pc2 := 106) (sx_bipush (show decode cX12_next 104 = .ok (.bipush 41, 2) by decide +kernel) (by decide)) rfl
    (sb_cons (pc2 := 109) (sx_icmp_eq (show decode cX12_next 106 = .ok (.if_icmp .eq 39, 3) by decide +kernel) (by decide)) rfl
    (sb_cons (pc2 := 110) (sx_iload_n (show decode cX12_next 109 = .ok (.iload_n 1, 1) by decide +kernel) rfl) rfl
    (sb_cons (pc2 := 112) (sx_bipush (show decode cX12_next 110 = .ok (.bipush 59, 2) by decide +kernel) (by decide)) rfl
    (sb_cons (pc2 := 115) (sx_icmp_eq (show decode cX12_next 112 = .ok (.if_icmp .eq 33, 3) by decide +kernel) (by decide)) rfl
    (sb_cons (pc2 := 116) (sx_iload_n (show decode cX12_next 115 = .ok (.iload_n 1, 1) by decide +kernel) rfl) rfl
    (sb_cons (pc2 := 118) (sx_bipush (show decode cX12_next 116 = .ok (.bipush 43, 2) by decide +kernel) (by decide)) rfl
    (sb_cons (pc2 := 121) (sx_icmp_eq (show decode cX12_next 118 = .ok (.if_icmp .eq 27, 3) by decide +kernel) (by decide)) rfl
    (sb_cons (pc2 := 122) (sx_iload_n (show decode cX12_next 121 = .ok (.iload_n 1, 1) by decide +kernel) rfl) rfl
    (sb_cons (pc2 := 124) (sx_bipush (show decode cX12_next 122 = .ok (.bipush 45, 2) by decide +kernel) (by decide)) rfl
    (sb_cons (pc2 := 127) (sx_icmp_eq (show decode cX12_next 124 = .ok (.if_icmp .eq 21, 3) by decide +kernel) (by decide)) rfl
    (sb_cons (pc2 := 128) (sx_iload_n (show decode cX12_next 127 = .ok (.iload_n 1, 1) by decide +kernel) rfl) rfl
    (sb_cons (pc2 := 130) (sx_bipush (show decode cX12_next 128 = .ok (.bipush 42, 2) by decide +kernel) (by decide)) rfl
    (sb_cons (pc2 := 133) (sx_icmp_eq (show decode cX12_next 130 = .ok (.if_icmp .eq 15, 3) by decide +kernel) (by decide)) rfl
    (sb_cons (pc2 := 134) (sx_iload_n (show decode cX12_next 133 = .ok (.iload_n 1, 1) by decide +kernel) rfl) rfl
    (sb_cons (pc2 := 136) (sx_bipush (show decode cX12_next 134 = .ok (.bipush 60, 2) by decide +kernel) (by decide)) rfl
    (sb_cons (pc2 := 139) (sx_icmp_eq (show decode cX12_next 136 = .ok (.if_icmp .eq 9, 3) by decide +kernel) (by decide)) rfl
    (sb_cons (pc2 := 140) (sx_iload_n (show decode cX12_next 139 = .ok (.iload_n 1, 1) by decide +kernel) rfl) rfl
    (sb_cons (pc2 := 142) (sx_bipush (show decode cX12_next 140 = .ok (.bipush 61, 2) by decide +kernel) (by decide)) rfl
    (sb_cons (pc2 := 145) (sx_icmp_ne (show decode cX12_next 142 = .ok (.if_icmp .ne 7, 3) by decide +kernel) (by decide)) rfl sb_nil))))))))))))))))))))))))
  (ms_cons
  (sb_cons (pc2 := 146) (sx_iconst (show decode cX12_next 145 = .ok (.iconst 1, 1) by decide +kernel) (by decide)) rfl
    (sb_cons (pc2 := 149) (px_snd_goto (show decode cX12_next 146 = .ok (.goto 4, 3) by decide +kernel) (by decide)) rfl sb_nil))
  (ms_cons
  (sb_cons (pc2 := 150) (sx_iconst (show decode cX12_next 149 = .ok (.iconst 0, 1) by decide +kernel) (by decide)) rfl sb_nil)
  (ms_cons
  (sb_cons (pc2 := 151) (sx_istore_n (show decode cX12_next 150 = .ok (.istore_n 2, 1) by decide +kernel) rfl) rfl
    (sb_cons (pc2 := 152) (sx_aload_n (show decode cX12_next 151 = .ok (.aload_n 0, 1) by decide +kernel) rfl) rfl
    (sb_cons (pc2 := 153) (sx_iload_n (show decode cX12_next 152 = .ok (.iload_n 2, 1) by decide +kernel) rfl) rfl
    (sb_cons (pc2 := 156) (sx_if_eq (show decode cX12_next 153 = .ok (.ifCond .eq 7, 3) by decide +kernel) (by decide)) rfl
    (sb_cons (pc2 := 157) (sx_iload_n (show decode cX12_next 156 = .ok (.iload_n 1, 1) by decide +kernel) rfl) rfl
    (sb_cons (pc2 := 160) (px_snd_goto (show decode cX12_next 157 = .ok (.goto 4, 3) by decide +kernel) (by decide)) rfl sb_nil))))))
  (ms_cons
  (sb_cons (pc2 := 161) (sx_iconst (show decode cX12_next 160 = .ok (.iconst 2, 1) by decide +kernel) (by decide)) rfl sb_nil)
  (ms_cons
  (sb_cons (pc2 := 164) (sx_puti (show decode cX12_next 161 = .ok (.putfield 278, 3) by decide +kernel) rfl iX12 tyX12_ok nmX12 (by decide) wd_836 rfl (Or.inl rfl)) rfl
    (sb_cons (pc2 := 165) (sx_aload_n (show decode cX12_next 164 = .ok (.aload_n 0, 1) by decide +kernel) rfl) rfl
    (sb_cons (pc2 := 166) (sx_dup (show decode cX12_next 165 = .ok (.dup, 1) by decide +kernel)) rfl
    (sb_cons (pc2 := 169) (sx_getf (show decode cX12_next 166 = .ok (.getfield 269, 3) by decide +kernel) rfl iX12 (by decide) wd_830) rfl
    (sb_cons (pc2 := 170) (sx_iconst (show decode cX12_next 169 = .ok (.iconst 1, 1) by decide +kernel) (by decide)) rfl
    (sb_cons (pc2 := 171) (sx_iadd (show decode cX12_next 170 = .ok (.iadd, 1) by decide +kernel)) rfl
    (sb_cons (pc2 := 174) (sx_puti (show decode cX12_next 171 = .ok (.putfield 269, 3) by decide +kernel) rfl iX12 tyX12_ok nmX12 (by decide) wd_830 rfl (Or.inl rfl)) rfl sb_nil)))))))
  (ms_cons
  (sb_cons (pc2 := 175) (sx_retv (show decode cX12_next 174 = .ok (.return_, 1) by decide +kernel) rfl) rfl sb_nil)
  ms_nil))))))))))))
def kX12_number (X : px_X) : px_B := [(0, [], [px_aload 0, px_push (.int 0), px_puti 12 60], 5),
  (5, [true], [px_aload 0, px_aload 0, px_getf 12 57, px_cV X 208 2 12, px_cS X 210 1, px_if1 (fun x => decide (x = 0)) 75, px_aload 0, px_aload 0, px_getf 12 57, px_aload 0, px_getf 12 58, (px_i2 fun x y => x - y), px_push (.int 4), px_if2 (fun x y => decide (y ≤ x)) 55, px_push (.int 10), px_aload 0, px_getf 12 60, (px_i2 fun x y => x * y), px_aload 0, px_aload 0, px_getf 12 57, px_cV X 208 2 12, (px_i2 fun x y => x + y), px_push (.int 48), (px_i2 fun x y => x - y), px_goto 59], 55),
  (55, [true], [px_aload 0, px_getf 12 60], 59),
  (59, [true], [px_puti 12 60, px_aload 0, px_dup, px_getf 12 57, px_push (.int 1), (px_i2 fun x y => x + y), px_puti 12 57, px_goto 5], 75),
  (75, [true], [px_aload 0, px_aload 0, px_getf 12 57, px_aload 0, px_getf 12 58, (px_i2 fun x y => x - y), px_push (.int 4), px_if2 (fun x y => decide (x ≤ y)) 93, px_push (.int 2), px_goto 94], 93),
  (93, [false], [px_push (.int 1)], 94),
  (94, [false], [px_puti 12 59, px_retv], 98)]
set_option maxRecDepth 100000 in
set_option maxHeartbeats 8000000 in
theorem sX12_number (d : Nat) (X : px_X) : px_MS d X YX12_number (kX12_number X) :=
  (ms_cons
  (sb_cons (pc2 := 1) (sx_aload_n (show decode cX12_number 0 = .ok (.aload_n 0, 1) by decide +kernel) rfl) rfl
    (sb_cons (pc2 := 2) (sx_iconst (show decode cX12_number 1 = .ok (.iconst 0, 1) by decide +kernel) (by decide)) rfl
    (sb_cons (pc2 := 5) (sx_puti (show decode cX12_number 2 = .ok (.putfield 293, 3) by decide +kernel) rfl iX12 tyX12_ok nmX12 (by decide) wd_851 rfl (Or.inl rfl)) rfl sb_nil)))
  (ms_cons
  (sb_cons (pc2 := 6) (sx_aload_n (show decode cX12_number 5 = .ok (.aload_n 0, 1) by decide +kernel) rfl) rfl
    (sb_cons (pc2 := 7) (sx_aload_n (show decode cX12_number 6 = .ok (.aload_n 0, 1) by decide +kernel) rfl) rfl
    (sb_cons (pc2 := 10) (sx_getf (show decode cX12_number 7 = .ok (.getfield 269, 3) by decide +kernel) rfl iX12 (by decide) wd_830) rfl
    (sb_cons (pc2 := 13) (sx_cV (Y' := YX12_byteAt) (q := (RX12, TX12, 69)) rfl (show decode cX12_number 10 = .ok (.invokevirtual 272, 3) by decide +kernel) rfl rfl (px_w4 wd_832 wd_833 wd_834 wd_719) wd_831 ⟨by decide, by decide, by decide +kernel⟩ (by decide)) rfl
    (sb_cons (pc2 := 16) (sx_cS (Y' := YX12_isDigit) rfl (show decode cX12_number 13 = .ok (.invokestatic 287, 3) by decide +kernel) rfl (px_w3 wd_845 wd_846 wd_719) wd_844 ⟨by decide, by decide, by decide +kernel⟩ (by decide)) rfl
    (sb_cons (pc2 := 19) (sx_if_eq (show decode cX12_number 16 = .ok (.ifCond .eq 59, 3) by decide +kernel) (by decide)) rfl
    (sb_cons (pc2 := 20) (sx_aload_n (show decode cX12_number 19 = .ok (.aload_n 0, 1) by decide +kernel) rfl) rfl
    (sb_cons (pc2 := 21) (sx_aload_n (show decode cX12_number 20 = .ok (.aload_n 0, 1) by decide +kernel) rfl) rfl
    (sb_cons (pc2 := 24) (sx_getf (show decode cX12_number 21 = .ok (.getfield 269, 3) by decide +kernel) rfl iX12 (by decide) wd_830) rfl
    (sb_cons (pc2 := 25) (sx_aload_n (show decode cX12_number 24 = .ok (.aload_n 0, 1) by decide +kernel) rfl) rfl
    (sb_cons (pc2 := 28) (sx_getf (show decode cX12_number 25 = .ok (.getfield 275, 3) by decide +kernel) rfl iX12 (by decide) wd_835) rfl
    (sb_cons (pc2 := 29) (sx_isub (show decode cX12_number 28 = .ok (.isub, 1) by decide +kernel)) rfl
    (sb_cons (pc2 := 30) (sx_iconst (show decode cX12_number 29 = .ok (.iconst 4, 1) by decide +kernel) (by decide)) rfl
    (sb_cons (pc2 := 33) (sx_icmp_ge (show decode cX12_number 30 = .ok (.if_icmp .ge 25, 3) by decide +kernel) (by decide)) rfl
    (sb_cons (pc2 := 35) (sx_bipush (show decode cX12_number 33 = .ok (.bipush 10, 2) by decide +kernel) (by decide)) rfl
    (sb_cons (pc2 := 36) (sx_aload_n (show decode cX12_number 35 = .ok (.aload_n 0, 1) by decide +kernel) rfl) rfl
    (sb_cons (pc2 := 39) (sx_getf (show decode cX12_number 36 = .ok (.getfield 293, 3) by decide +kernel) rfl iX12 (by decide) wd_851) rfl
    (sb_cons (pc2 := 40) (sx_imul (show decode cX12_number 39 = .ok (.imul, 1) by decide +kernel)) rfl
    (sb_cons (pc2 := 41) (sx_aload_n (show decode cX12_number 40 = .ok (.aload_n 0, 1) by decide +kernel) rfl) rfl
    (sb_cons (pc2 := 42) (sx_aload_n (show decode cX12_number 41 = .ok (.aload_n 0, 1) by decide +kernel) rfl) rfl
    (sb_cons (pc2 := 45) (sx_getf (show decode cX12_number 42 = .ok (.getfield 269, 3) by decide +kernel) rfl iX12 (by decide) wd_830) rfl
    (sb_cons (pc2 := 48) (sx_cV (Y' := YX12_byteAt) (q := (RX12, TX12, 69)) rfl (show decode cX12_number 45 = .ok (.invokevirtual 272, 3) by decide +kernel) rfl rfl (px_w4 wd_832 wd_833 wd_834 wd_719) wd_831 ⟨by decide, by decide, by decide +kernel⟩ (by decide)) rfl
    (sb_cons (pc2 := 49) (sx_iadd (show decode cX12_number 48 = .ok (.iadd, 1) by decide +kernel)) rfl
    (sb_cons (pc2 := 51) (sx_bipush (show decode cX12_number 49 = .ok (.bipush 48, 2) by decide +kernel) (by decide)) rfl
    (sb_cons (pc2 := 52) (sx_isub (show decode cX12_number 51 = .ok (.isub, 1) by decide +kernel)) rfl
    (sb_cons (pc2 := 55) (px_snd_goto (show decode cX12_number 52 = .ok (.goto 7, 3) by decide +kernel) (by decide)) rfl sb_nil))))))))))))))))))))))))))
  (ms_cons
  (sb_cons (pc2 := 56) (sx_aload_n (show decode cX12_number 55 = .ok (.aload_n 0, 1) by decide +kernel) rfl) rfl
    (sb_cons (pc2 := 59) (sx_getf (show decode cX12_number 56 = .ok (.getfield 293, 3) by decide +kernel) rfl iX12 (by decide) wd_851) rfl sb_nil))
  (ms_cons
  (sb_cons (pc2 := 62) (sx_puti (show decode cX12_number 59 = .ok (.putfield 293, 3) by decide +kernel) rfl iX12 tyX12_ok nmX12 (by decide) wd_851 rfl (Or.inl rfl)) rfl
    (sb_cons (pc2 := 63) (sx_aload_n (show decode cX12_number 62 = .ok (.aload_n 0, 1) by decide +kernel) rfl) rfl
    (sb_cons (pc2 := 64) (sx_dup (show decode cX12_number 63 = .ok (.dup, 1) by decide +kernel)) rfl
    (sb_cons (pc2 := 67) (sx_getf (show decode cX12_number 64 = .ok (.getfield 269, 3) by decide +kernel) rfl iX12 (by decide) wd_830) rfl
    (sb_cons (pc2 := 68) (sx_iconst (show decode cX12_number 67 = .ok (.iconst 1, 1) by decide +kernel) (by decide)) rfl
    (sb_cons (pc2 := 69) (sx_iadd (show decode cX12_number 68 = .ok (.iadd, 1) by decide +kernel)) rfl
    (sb_cons (pc2 := 72) (sx_puti (show decode cX12_number 69 = .ok (.putfield 269, 3) by decide +kernel) rfl iX12 tyX12_ok nmX12 (by decide) wd_830 rfl (Or.inl rfl)) rfl
    (sb_cons (pc2 := 75) (px_snd_goto (show decode cX12_number 72 = .ok (.goto (-67), 3) by decide +kernel) (by decide)) rfl sb_nil))))))))
  (ms_cons
  (sb_cons (pc2 := 76) (sx_aload_n (show decode cX12_number 75 = .ok (.aload_n 0, 1) by decide +kernel) rfl) rfl
    (sb_cons (pc2 := 77) (sx_aload_n (show decode cX12_number 76 = .ok (.aload_n 0, 1) by decide +kernel) rfl) rfl
    (sb_cons (pc2 := 80) (sx_getf (show decode cX12_number 77 = .ok (.getfield 269, 3) by decide +kernel) rfl iX12 (by decide) wd_830) rfl
    (sb_cons (pc2 := 81) (sx_aload_n (show decode cX12_number 80 = .ok (.aload_n 0, 1) by decide +kernel) rfl) rfl
    (sb_cons (pc2 := 84) (sx_getf (show decode cX12_number 81 = .ok (.getfield 275, 3) by decide +kernel) rfl iX12 (by decide) wd_835) rfl
    (sb_cons (pc2 := 85) (sx_isub (show decode cX12_number 84 = .ok (.isub, 1) by decide +kernel)) rfl
    (sb_cons (pc2 := 86) (sx_iconst (show decode cX12_number 85 = .ok (.iconst 4, 1) by decide +kernel) (by decide)) rfl
    (sb_cons (pc2 := 89) (sx_icmp_le (show decode cX12_number 86 = .ok (.if_icmp .le 7, 3) by decide +kernel) (by decide)) rfl
    (sb_cons (pc2 := 90) (sx_iconst (show decode cX12_number 89 = .ok (.iconst 2, 1) by decide +kernel) (by decide)) rfl
    (sb_cons (pc2 := 93) (px_snd_goto (show decode cX12_number 90 = .ok (.goto 4, 3) by decide +kernel) (by decide)) rfl sb_nil))))))))))
  (ms_cons
  (sb_cons (pc2 := 94) (sx_iconst (show decode cX12_number 93 = .ok (.iconst 1, 1) by decide +kernel) (by decide)) rfl sb_nil)
  (ms_cons
  (sb_cons (pc2 := 97) (sx_puti (show decode cX12_number 94 = .ok (.putfield 278, 3) by decide +kernel) rfl iX12 tyX12_ok nmX12 (by decide) wd_836 rfl (Or.inl rfl)) rfl
    (sb_cons (pc2 := 98) (sx_retv (show decode cX12_number 97 = .ok (.return_, 1) by decide +kernel) rfl) rfl sb_nil))
  ms_nil)))))))
def kX12_word (X : px_X) : px_B := [(0, [], [px_aload 0, px_aload 0, px_getf 12 57, px_cV X 208 2 12, px_cS X 209 1, px_if1 (fun x => decide (x = 0)) 27, px_aload 0, px_dup, px_getf 12 57, px_push (.int 1), (px_i2 fun x y => x + y), px_puti 12 57, px_goto 0], 27),
  (27, [true, false, false, false, false], [px_push (.int 0), px_istore 1, px_push (.int 0), px_istore 2, px_push (.int 1), px_istore 3, px_aload 0, px_push (.int 2), px_puti 12 59, px_push (.int 0), px_istore 4], 41),
  (41, [true, true, true, true, true], [px_iload 4, px_aload 0, px_getf 12 54, px_alen, px_if2 (fun x y => decide (y ≤ x)) 167, px_aload 0, px_getf 12 54, px_iload 4, px_iald 0, px_if1 (fun x => decide (¬ x = 0)) 115, px_iload 3, px_if1 (fun x => decide (x = 0)) 105, px_iload 2, px_aload 0, px_getf 12 57, px_aload 0, px_getf 12 58, (px_i2 fun x y => x - y), px_if2 (fun x y => decide (¬ x = y)) 105, px_aload 0, px_iload 1, px_push (.int 6), px_if2 (fun x y => decide (y ≤ x)) 89, px_push (.int 3), px_goto 97], 89),
  (89, [true, true, false, false, true], [px_push (.int 300), px_iload 1, (px_i2 fun x y => x + y), px_push (.int 6), (px_i2 fun x y => x - y)], 97),
  (97, [true, true, false, false, true], [px_puti 12 59, px_aload 0, px_iload 1, px_puti 12 60], 105),
  (105, [true, true, false, false, true], [px_iinc 1 1, px_push (.int 0), px_istore 2, px_push (.int 1), px_istore 3, px_goto 161], 115),
  (115, [true, true, true, true, true], [px_iload 3, px_if1 (fun x => decide (x = 0)) 156, px_aload 0, px_aload 0, px_getf 12 58, px_iload 2, (px_i2 fun x y => x + y), px_cV X 208 2 12, px_aload 0, px_getf 12 54, px_iload 4, px_iald 0, px_if2 (fun x y => decide (¬ x = y)) 156, px_iload 2, px_aload 0, px_getf 12 57, px_aload 0, px_getf 12 58, (px_i2 fun x y => x - y), px_if2 (fun x y => decide (y ≤ x)) 156, px_push (.int 1), px_goto 157], 156),
  (156, [true, true, true, false, true], [px_push (.int 0)], 157),
  (157, [true, true, true, false, true], [px_istore 3, px_iinc 2 1], 161),
  (161, [true, true, true, true, true], [px_iinc 4 1, px_goto 41], 167),
  (167, [false, false, false, false, false], [px_retv], 168)]
set_option maxRecDepth 100000 in
set_option maxHeartbeats 8000000 in
theorem sX12_word (d : Nat) (X : px_X) : px_MS d X YX12_word (kX12_word X) :=
  (ms_cons
  (sb_cons (pc2 := 1) (sx_aload_n (show decode cX12_word 0 = .ok (.aload_n 0, 1) by decide +kernel) rfl) rfl
    (sb_cons (pc2 := 2) (sx_aload_n (show decode cX12_word 1 = .ok (.aload_n 0, 1) by decide +kernel) rfl) rfl
    (sb_cons (pc2 := 5) (sx_getf (show decode cX12_word 2 = .ok (.getfield 269, 3) by decide +kernel) rfl iX12 (by decide) wd_830) rfl
    (sb_cons (pc2 := 8) (sx_cV (Y' := YX12_byteAt) (q := (RX12, TX12, 69)) rfl (show decode cX12_word 5 = .ok (.invokevirtual 272, 3) by decide +kernel) rfl rfl (px_w4 wd_832 wd_833 wd_834 wd_719) wd_831 ⟨by decide, by decide, by decide +kernel⟩ (by decide)) rfl
    (sb_cons (pc2 := 11) (sx_cS (Y' := YX12_isLetter) rfl (show decode cX12_word 8 = .ok (.invokestatic 281, 3) by decide +kernel) rfl (px_w3 wd_838 wd_839 wd_719) wd_837 ⟨by decide, by decide, by decide +kernel⟩ (by decide)) rfl
    (sb_cons (pc2 := 14) (sx_if_eq (show decode cX12_word 11 = .ok (.ifCond .eq 16, 3) by decide +kernel) (by decide)) rfl
    (sb_cons (pc2 := 15) (sx_aload_n (show decode cX12_word 14 = .ok (.aload_n 0, 1) by decide +kernel) rfl) rfl
    (sb_cons (pc2 := 16) (sx_dup (show decode cX12_word 15 = .ok (.dup, 1) by decide +kernel)) rfl
    (sb_cons (pc2 := 19) (sx_getf (show decode cX12_word 16 = .ok (.getfield 269, 3) by decide +kernel) rfl iX12 (by decide) wd_830) rfl
    (sb_cons (pc2 := 20) (sx_iconst (show decode cX12_word 19 = .ok (.iconst 1, 1) by decide +kernel) (by decide)) rfl
    (sb_cons (pc2 := 21) (sx_iadd (show decode cX12_word 20 = .ok (.iadd, 1) by decide +kernel)) rfl
    (sb_cons (pc2 := 24) (sx_puti (show decode cX12_word 21 = .ok (.putfield 269, 3) by decide +kernel) rfl iX12 tyX12_ok nmX12 (by decide) wd_830 rfl (Or.inl rfl)) rfl
    (sb_cons (pc2 := 27) (px_snd_goto (show decode cX12_word 24 = .ok (.goto (-24), 3) by decide +kernel) (by decide)) rfl sb_nil)))))))))))))
  (ms_cons
  (sb_cons (pc2 := 28) (sx_iconst (show decode cX12_word 27 = .ok (.iconst 0, 1) by decide +kernel) (by decide)) rfl
    (sb_cons (pc2 := 29) (sx_istore_n (show decode cX12_word 28 = .ok (.istore_n 1, 1) by decide +kernel) rfl) rfl
    (sb_cons (pc2 := 30) (sx_iconst (show decode cX12_word 29 = .ok (.iconst 0, 1) by decide +kernel) (by decide)) rfl
    (sb_cons (pc2 := 31) (sx_istore_n (show decode cX12_word 30 = .ok (.istore_n 2, 1) by decide +kernel) rfl) rfl
    (sb_cons (pc2 := 32) (sx_iconst (show decode cX12_word 31 = .ok (.iconst 1, 1) by decide +kernel) (by decide)) rfl
    (sb_cons (pc2 := 33) (sx_istore_n (show decode cX12_word 32 = .ok (.istore_n 3, 1) by decide +kernel) rfl) rfl
    (sb_cons (pc2 := 34) (sx_aload_n (show decode cX12_word 33 = .ok (.aload_n 0, 1) by decide +kernel) rfl) rfl
    (sb_cons (pc2 := 35) (sx_iconst (show decode cX12_word 34 = .ok (.iconst 2, 1) by decide +kernel) (by decide)) rfl
    (sb_cons (pc2 := 38) (sx_puti (show decode cX12_word 35 = .ok (.putfield 278, 3) by decide +kernel) rfl iX12 tyX12_ok nmX12 (by decide) wd_836 rfl (Or.inl rfl)) rfl
    (sb_cons (pc2 := 39) (sx_iconst (show decode cX12_word 38 = .ok (.iconst 0, 1) by decide +kernel) (by decide)) rfl
    (sb_cons (pc2 := 41) (sx_istore (show decode cX12_word 39 = .ok (.istore 4, 2) by decide +kernel)) rfl sb_nil)))))))))))
  (ms_cons
  (sb_cons (pc2 := 43) (sx_iload (show decode cX12_word 41 = .ok (.iload 4, 2) by decide +kernel)) rfl
    (sb_cons (pc2 := 44) (sx_aload_n (show decode cX12_word 43 = .ok (.aload_n 0, 1) by decide +kernel) rfl) rfl
    (sb_cons (pc2 := 47) (sx_getf (show decode cX12_word 44 = .ok (.getfield 129, 3) by decide +kernel) rfl iX12 (by decide) wd_710) rfl
    (sb_cons (pc2 := 48) (sx_alen (show decode cX12_word 47 = .ok (.arraylength, 1) by decide +kernel)) rfl
    (sb_cons (pc2 := 51) (sx_icmp_ge (show decode cX12_word 48 = .ok (.if_icmp .ge 119, 3) by decide +kernel) (by decide)) rfl
    (sb_cons (pc2 := 52) (sx_aload_n (show decode cX12_word 51 = .ok (.aload_n 0, 1) by decide +kernel) rfl) rfl
    (sb_cons (pc2 := 55) (sx_getf (show decode cX12_word 52 = .ok (.getfield 129, 3) by decide +kernel) rfl iX12 (by decide) wd_710) rfl
    (sb_cons (pc2 := 57) (sx_iload (show decode cX12_word 55 = .ok (.iload 4, 2) by decide +kernel)) rfl
    (sb_cons (pc2 := 58) (sx_iald (show decode cX12_word 57 = .ok (.iaload, 1) by decide +kernel)) rfl
    (sb_cons (pc2 := 61) (sx_if_ne (show decode cX12_word 58 = .ok (.ifCond .ne 57, 3) by decide +kernel) (by decide)) rfl
    (sb_cons (pc2 := 62) (sx_iload_n (show decode cX12_word 61 = .ok (.iload_n 3, 1) by decide +kernel) rfl) rfl
    (sb_cons (pc2 := 65) (sx_if_eq (show decode cX12_word 62 = .ok (.ifCond .eq 43, 3) by decide +kernel) (by decide)) rfl
    (sb_cons (pc2 := 66) (sx_iload_n (show decode cX12_word 65 = .ok (.iload_n 2, 1) by decide +kernel) rfl) rfl
    (sb_cons (pc2 := 67) (sx_aload_n (show decode cX12_word 66 = .ok (.aload_n 0, 1) by decide +kernel) rfl) rfl
    (sb_cons (pc2 := 70) (sx_getf (show decode cX12_word 67 = .ok (.getfield 269, 3) by decide +kernel) rfl iX12 (by decide) wd_830) rfl
    (sb_cons (pc2 := 71) (sx_aload_n (show decode cX12_word 70 = .ok (.aload_n 0, 1) by decide +kernel) rfl) rfl
    (sb_cons (pc2 := 74) (sx_getf (show decode cX12_word 71 = .ok (.getfield 275, 3) by decide +kernel) rfl iX12 (by decide) wd_835) rfl
    (sb_cons (pc2 := 75) (sx_isub (show decode cX12_word 74 = .ok (.isub, 1) by decide +kernel)) rfl
    (sb_cons (pc2 := 78) (sx_icmp_ne (show decode cX12_word 75 = .ok (.if_icmp .ne 30, 3) by decide +kernel) (by decide)) rfl
    (sb_cons (pc2 := 79) (sx_aload_n (show decode cX12_word 78 = .ok (.aload_n 0, 1) by decide +kernel) rfl) rfl
    (sb_cons (pc2 := 80) (sx_iload_n (show decode cX12_word 79 = .ok (.iload_n 1, 1) by decide +kernel) rfl) rfl
    (sb_cons (pc2 := 82) (sx_bipush (show decode cX12_word 80 = .ok (.bipush 6, 2) by decide +kernel) (by decide)) rfl
    (sb_cons (pc2 := 85) (sx_icmp_ge (show decode cX12_word 82 = .ok (.if_icmp .ge 7, 3) by decide +kernel) (by decide)) rfl
    (sb_cons (pc2 := 86) (sx_iconst (show decode cX12_word 85 = .ok (.iconst 3, 1) by decide +kernel) (by decide)) rfl
    (sb_cons (pc2 := 89) (px_snd_goto (show decode cX12_word 86 = .ok (.goto 11, 3) by decide +kernel) (by decide)) rfl sb_nil)))))))))))))))))))))))))
  (ms_cons
  (sb_cons (pc2 := 92) (sx_sipush (show decode cX12_word 89 = .ok (.sipush 300, 3) by decide +kernel) (by decide)) rfl
    (sb_cons (pc2 := 93) (sx_iload_n (show decode cX12_word 92 = .ok (.iload_n 1, 1) by decide +kernel) rfl) rfl
    (sb_cons (pc2 := 94) (sx_iadd (show decode cX12_word 93 = .ok (.iadd, 1) by decide +kernel)) rfl
    (sb_cons (pc2 := 96) (sx_bipush (show decode cX12_word 94 = .ok (.bipush 6, 2) by decide +kernel) (by decide)) rfl
    (sb_cons (pc2 := 97) (sx_isub (show decode cX12_word 96 = .ok (.isub, 1) by decide +kernel)) rfl sb_nil)))))
  (ms_cons
  (sb_cons (pc2 := 100) (sx_puti (show decode cX12_word 97 = .ok (.putfield 278, 3) by decide +kernel) rfl iX12 tyX12_ok nmX12 (by decide) wd_836 rfl (Or.inl rfl)) rfl
    (sb_cons (pc2 := 101) (sx_aload_n (show decode cX12_word 100 = .ok (.aload_n 0, 1) by decide +kernel) rfl) rfl
    (sb_cons (pc2 := 102) (sx_iload_n (show decode cX12_word 101 = .ok (.iload_n 1, 1) by decide +kernel) rfl) rfl
    (sb_cons (pc2 := 105) (sx_puti (show decode cX12_word 102 = .ok (.putfield 293, 3) by decide +kernel) rfl iX12 tyX12_ok nmX12 (by decide) wd_851 rfl (Or.inl rfl)) rfl sb_nil))))
  (ms_cons
  (sb_cons (pc2 := 108) (sx_iinc (show decode cX12_word 105 = .ok (.iinc 1 1, 3) by decide +kernel) (by decide)) rfl
    (sb_cons (pc2 := 109) (sx_iconst (show decode cX12_word 108 = .ok (.iconst 0, 1) by decide +kernel) (by decide)) rfl
    (sb_cons (pc2 := 110) (sx_istore_n (show decode cX12_word 109 = .ok (.istore_n 2, 1) by decide +kernel) rfl) rfl
    (sb_cons (pc2 := 111) (sx_iconst (show decode cX12_word 110 = .ok (.iconst 1, 1) by decide +kernel) (by decide)) rfl
    (sb_cons (pc2 := 112) (sx_istore_n (show decode cX12_word 111 = .ok (.istore_n 3, 1) by decide +kernel) rfl) rfl
    (sb_cons (pc2 := 115) (px_snd_goto (show decode cX12_word 112 = .ok (.goto 49, 3) by decide +kernel) (by decide)) rfl sb_nil))))))
  (ms_cons
  (sb_cons (pc2 := 116) (sx_iload_n (show decode cX12_word 115 = .ok (.iload_n 3, 1) by decide +kernel) rfl) rfl
    (sb_cons (pc2 := 119) (sx_if_eq (show decode cX12_word 116 = .ok (.ifCond .eq 40, 3) by decide +kernel) (by decide)) rfl
    (sb_cons (pc2 := 120) (sx_aload_n (show decode cX12_word 119 = .ok (.aload_n 0, 1) by decide +kernel) rfl) rfl
    (sb_cons (pc2 := 121) (sx_aload_n (show decode cX12_word 120 = .ok (.aload_n 0, 1) by decide +kernel) rfl) rfl
    (sb_cons (pc2 := 124) (sx_getf (show decode cX12_word 121 = .ok (.getfield 275, 3) by decide +kernel) rfl iX12 (by decide) wd_835) rfl
    (sb_cons (pc2 := 125) (sx_iload_n (show decode cX12_word 124 = .ok (.iload_n 2, 1) by decide +kernel) rfl) rfl
    (sb_cons (pc2 := 126) (sx_iadd (show decode cX12_word 125 = .ok (.iadd, 1) by decide +kernel)) rfl
    (sb_cons (pc2 := 129) (sx_cV (Y' := YX12_byteAt) (q := (RX12, TX12, 69)) rfl (show decode cX12_word 126 = .ok (.invokevirtual 272, 3) by decide +kernel) rfl rfl (px_w4 wd_832 wd_833 wd_834 wd_719) wd_831 ⟨by decide, by decide, by decide +kernel⟩ (by decide)) rfl
    (sb_cons (pc2 := 130) (sx_aload_n (show decode cX12_word 129 = .ok (.aload_n 0, 1) by decide +kernel) rfl) rfl
    (sb_cons (pc2 := 133) (sx_getf (show decode cX12_word 130 = .ok (.getfield 129, 3) by decide +kernel) rfl iX12 (by decide) wd_710) rfl
    (sb_cons (pc2 := 135) (sx_iload (show decode cX12_word 133 = .ok (.iload 4, 2) by decide +kernel)) rfl
    (sb_cons (pc2 := 136) (sx_iald (show decode cX12_word 135 = .ok (.iaload, 1) by decide +kernel)) rfl
    (sb_cons (pc2 := 139) (sx_icmp_ne (show decode cX12_word 136 = .ok (.if_icmp .ne 20, 3) by decide +kernel) (by decide)) rfl
    (sb_cons (pc2 := 140) (sx_iload_n (show decode cX12_word 139 = .ok (.iload_n 2, 1) by decide +kernel) rfl) rfl
    (sb_cons (pc2 := 141) (sx_aload_n (show decode cX12_word 140 = .ok (.aload_n 0, 1) by decide +kernel) rfl) rfl
    (sb_cons (pc2 := 144) (sx_getf (show decode cX12_word 141 = .ok (.getfield 269, 3) by decide +kernel) rfl iX12 (by decide) wd_830) rfl
    (sb_cons (pc2 := 145) (sx_aload_n (show decode cX12_word 144 = .ok (.aload_n 0, 1) by decide +kernel) rfl) rfl
    (sb_cons (pc2 := 148) (sx_getf (show decode cX12_word 145 = .ok (.getfield 275, 3) by decide +kernel) rfl iX12 (by decide) wd_835) rfl
    (sb_cons (pc2 := 149) (sx_isub (show decode cX12_word 148 = .ok (.isub, 1) by decide +kernel)) rfl
    (sb_cons (pc2 := 152) (sx_icmp_ge (show decode cX12_word 149 = .ok (.if_icmp .ge 7, 3) by decide +kernel) (by decide)) rfl
    (sb_cons (pc2 := 153) (sx_iconst (show decode cX12_word 152 = .ok (.iconst 1, 1) by decide +kernel) (by decide)) rfl
    (sb_cons (pc2 := 156) (px_snd_goto (show decode cX12_word 153 = .ok (.goto 4, 3) by decide +kernel) (by decide)) rfl sb_nil))))))))))))))))))))))
  (ms_cons
  (sb_cons (pc2 := 157) (sx_iconst (show decode cX12_word 156 = .ok (.iconst 0, 1) by decide +kernel) (by decide)) rfl sb_nil)
  (ms_cons
  (sb_cons (pc2 := 158) (sx_istore_n (show decode cX12_word 157 = .ok (.istore_n 3, 1) by decide +kernel) rfl) rfl
    (sb_cons (pc2 := 161) (sx_iinc (show decode cX12_word 158 = .ok (.iinc 2 1, 3) by decide +kernel) (by decide)) rfl sb_nil))
  (ms_cons
  (sb_cons (pc2 := 164) (sx_iinc (show decode cX12_word 161 = .ok (.iinc 4 1, 3) by decide +kernel) (by decide)) rfl
    (sb_cons (pc2 := 167) (px_snd_goto (show decode cX12_word 164 = .ok (.goto (-123), 3) by decide +kernel) (by decide)) rfl sb_nil))
  (ms_cons
  (sb_cons (pc2 := 168) (sx_retv (show decode cX12_word 167 = .ok (.return_, 1) by decide +kernel) rfl) rfl sb_nil)
  ms_nil)))))))))))
def kX12_isWrong (X : px_X) : px_B := [(0, [], [px_aload 0, px_getf 12 61, px_push (.int (-1)), px_if2 (fun x y => decide (x = y)) 12, px_push (.int 1), px_goto 13], 12),
  (12, [false], [px_push (.int 0)], 13),
  (13, [false], [px_retz], 14)]
set_option maxRecDepth 100000 in
set_option maxHeartbeats 8000000 in
theorem sX12_isWrong (d : Nat) (X : px_X) : px_MS d X YX12_isWrong (kX12_isWrong X) :=
  (ms_cons
  (sb_cons (pc2 := 1) (sx_aload_n (show decode cX12_isWrong 0 = .ok (.aload_n 0, 1) by decide +kernel) rfl) rfl
    (sb_cons (pc2 := 4) (sx_getf (show decode cX12_isWrong 1 = .ok (.getfield 296, 3) by decide +kernel) rfl iX12 (by decide) wd_852) rfl
    (sb_cons (pc2 := 5) (sx_iconst (show decode cX12_isWrong 4 = .ok (.iconst (-1), 1) by decide +kernel) (by decide)) rfl
    (sb_cons (pc2 := 8) (sx_icmp_eq (show decode cX12_isWrong 5 = .ok (.if_icmp .eq 7, 3) by decide +kernel) (by decide)) rfl
    (sb_cons (pc2 := 9) (sx_iconst (show decode cX12_isWrong 8 = .ok (.iconst 1, 1) by decide +kernel) (by decide)) rfl
    (sb_cons (pc2 := 12) (px_snd_goto (show decode cX12_isWrong 9 = .ok (.goto 4, 3) by decide +kernel) (by decide)) rfl sb_nil))))))
  (ms_cons
  (sb_cons (pc2 := 13) (sx_iconst (show decode cX12_isWrong 12 = .ok (.iconst 0, 1) by decide +kernel) (by decide)) rfl sb_nil)
  (ms_cons
  (sb_cons (pc2 := 14) (sx_retz (show decode cX12_isWrong 13 = .ok (.ireturn, 1) by decide +kernel) rfl) rfl sb_nil)
  ms_nil)))
def kX12_cannot (X : px_X) : px_B := [(0, [], [px_aload 0, px_aload 0, px_getf 12 61, px_push (.int (-1)), px_if2 (fun x y => decide (¬ x = y)) 16, px_aload 0, px_getf 12 58, px_goto 20], 16),
  (16, [true], [px_aload 0, px_getf 12 61], 20),
  (20, [false], [px_puti 12 61, px_retv], 24)]
set_option maxRecDepth 100000 in
set_option maxHeartbeats 8000000 in
theorem sX12_cannot (d : Nat) (X : px_X) : px_MS d X YX12_cannot (kX12_cannot X) :=
  (ms_cons
  (sb_cons (pc2 := 1) (sx_aload_n (show decode cX12_cannot 0 = .ok (.aload_n 0, 1) by decide +kernel) rfl) rfl
    (sb_cons (pc2 := 2) (sx_aload_n (show decode cX12_cannot 1 = .ok (.aload_n 0, 1) by decide +kernel) rfl) rfl
    (sb_cons (pc2 := 5) (sx_getf (show decode cX12_cannot 2 = .ok (.getfield 296, 3) by decide +kernel) rfl iX12 (by decide) wd_852) rfl
    (sb_cons (pc2 := 6) (sx_iconst (show decode cX12_cannot 5 = .ok (.iconst (-1), 1) by decide +kernel) (by decide)) rfl
    (sb_cons (pc2 := 9) (sx_icmp_ne (show decode cX12_cannot 6 = .ok (.if_icmp .ne 10, 3) by decide +kernel) (by decide)) rfl
    (sb_cons (pc2 := 10) (sx_aload_n (show decode cX12_cannot 9 = .ok (.aload_n 0, 1) by decide +kernel) rfl) rfl
    (sb_cons (pc2 := 13) (sx_getf (show decode cX12_cannot 10 = .ok (.getfield 275, 3) by decide +kernel) rfl iX12 (by decide) wd_835) rfl
    (sb_cons (pc2 := 16) (px_snd_goto (show decode cX12_cannot 13 = .ok (.goto 7, 3) by decide +kernel) (by decide)) rfl sb_nil))))))))
  (ms_cons
  (sb_cons (pc2 := 17) (sx_aload_n (show decode cX12_cannot 16 = .ok (.aload_n 0, 1) by decide +kernel) rfl) rfl
    (sb_cons (pc2 := 20) (sx_getf (show decode cX12_cannot 17 = .ok (.getfield 296, 3) by decide +kernel) rfl iX12 (by decide) wd_852) rfl sb_nil))
  (ms_cons
  (sb_cons (pc2 := 23) (sx_puti (show decode cX12_cannot 20 = .ok (.putfield 296, 3) by decide +kernel) rfl iX12 tyX12_ok nmX12 (by decide) wd_852 rfl (Or.inl rfl)) rfl
    (sb_cons (pc2 := 24) (sx_retv (show decode cX12_cannot 23 = .ok (.return_, 1) by decide +kernel) rfl) rfl sb_nil))
  ms_nil)))
def kX12_need (X : px_X) : px_B := [(0, [], [px_aload 0, px_cV X 214 1 12, px_if1 (fun x => decide (x = 0)) 8, px_retv], 8),
  (8, [true, true], [px_aload 0, px_getf 12 59, px_iload 1, px_if2 (fun x y => decide (x = y)) 23, px_aload 0, px_cV X 215 1 12, px_goto 27], 23),
  (23, [true, false], [px_aload 0, px_cV X 211 1 12], 27),
  (27, [false, false], [px_retv], 28)]
set_option maxRecDepth 100000 in
set_option maxHeartbeats 8000000 in
theorem sX12_need (d : Nat) (X : px_X) : px_MS d X YX12_need (kX12_need X) :=
  (ms_cons
  (sb_cons (pc2 := 1) (sx_aload_n (show decode cX12_need 0 = .ok (.aload_n 0, 1) by decide +kernel) rfl) rfl
    (sb_cons (pc2 := 4) (sx_cV (Y' := YX12_isWrong) (q := (RX12, TX12, 69)) rfl (show decode cX12_need 1 = .ok (.invokevirtual 299, 3) by decide +kernel) rfl rfl (px_w4 wd_854 wd_855 wd_856 wd_719) wd_853 ⟨by decide, by decide, by decide +kernel⟩ (by decide)) rfl
    (sb_cons (pc2 := 7) (sx_if_eq (show decode cX12_need 4 = .ok (.ifCond .eq 4, 3) by decide +kernel) (by decide)) rfl
    (sb_cons (pc2 := 8) (sx_retv (show decode cX12_need 7 = .ok (.return_, 1) by decide +kernel) rfl) rfl sb_nil))))
  (ms_cons
  (sb_cons (pc2 := 9) (sx_aload_n (show decode cX12_need 8 = .ok (.aload_n 0, 1) by decide +kernel) rfl) rfl
    (sb_cons (pc2 := 12) (sx_getf (show decode cX12_need 9 = .ok (.getfield 278, 3) by decide +kernel) rfl iX12 (by decide) wd_836) rfl
    (sb_cons (pc2 := 13) (sx_iload_n (show decode cX12_need 12 = .ok (.iload_n 1, 1) by decide +kernel) rfl) rfl
    (sb_cons (pc2 := 16) (sx_icmp_eq (show decode cX12_need 13 = .ok (.if_icmp .eq 10, 3) by decide +kernel) (by decide)) rfl
    (sb_cons (pc2 := 17) (sx_aload_n (show decode cX12_need 16 = .ok (.aload_n 0, 1) by decide +kernel) rfl) rfl
    (sb_cons (pc2 := 20) (sx_cV (Y' := YX12_cannot) (q := (RX12, TX12, 69)) rfl (show decode cX12_need 17 = .ok (.invokevirtual 303, 3) by decide +kernel) rfl rfl (px_w4 wd_858 wd_859 wd_860 wd_719) wd_857 ⟨by decide, by decide, by decide +kernel⟩ (by decide)) rfl
    (sb_cons (pc2 := 23) (px_snd_goto (show decode cX12_need 20 = .ok (.goto 7, 3) by decide +kernel) (by decide)) rfl sb_nil)))))))
  (ms_cons
  (sb_cons (pc2 := 24) (sx_aload_n (show decode cX12_need 23 = .ok (.aload_n 0, 1) by decide +kernel) rfl) rfl
    (sb_cons (pc2 := 27) (sx_cV (Y' := YX12_next) (q := (RX12, TX12, 69)) rfl (show decode cX12_need 24 = .ok (.invokevirtual 306, 3) by decide +kernel) rfl rfl (px_w4 wd_862 wd_863 wd_864 wd_719) wd_861 ⟨by decide, by decide, by decide +kernel⟩ (by decide)) rfl sb_nil))
  (ms_cons
  (sb_cons (pc2 := 28) (sx_retv (show decode cX12_need 27 = .ok (.return_, 1) by decide +kernel) rfl) rfl sb_nil)
  ms_nil))))
def kX12_opens (X : px_X) : px_B := [(0, [], [px_aload 0, px_getf 12 62, px_push (.int 5), px_if2 (fun x y => decide (¬ x = y)) 12, px_aload 0, px_cV X 215 1 12], 12),
  (12, [true], [px_aload 0, px_dup, px_getf 12 62, px_push (.int 1), (px_i2 fun x y => x + y), px_puti 12 62, px_aload 0, px_cV X 214 1 12, px_if1 (fun x => decide (¬ x = 0)) 33, px_aload 0, px_cV X 211 1 12], 33),
  (33, [false], [px_retv], 34)]
set_option maxRecDepth 100000 in
set_option maxHeartbeats 8000000 in
theorem sX12_opens (d : Nat) (X : px_X) : px_MS d X YX12_opens (kX12_opens X) :=
  (ms_cons
  (sb_cons (pc2 := 1) (sx_aload_n (show decode cX12_opens 0 = .ok (.aload_n 0, 1) by decide +kernel) rfl) rfl
    (sb_cons (pc2 := 4) (sx_getf (show decode cX12_opens 1 = .ok (.getfield 309, 3) by decide +kernel) rfl iX12 (by decide) wd_865) rfl
    (sb_cons (pc2 := 5) (sx_iconst (show decode cX12_opens 4 = .ok (.iconst 5, 1) by decide +kernel) (by decide)) rfl
    (sb_cons (pc2 := 8) (sx_icmp_ne (show decode cX12_opens 5 = .ok (.if_icmp .ne 7, 3) by decide +kernel) (by decide)) rfl
    (sb_cons (pc2 := 9) (sx_aload_n (show decode cX12_opens 8 = .ok (.aload_n 0, 1) by decide +kernel) rfl) rfl
    (sb_cons (pc2 := 12) (sx_cV (Y' := YX12_cannot) (q := (RX12, TX12, 69)) rfl (show decode cX12_opens 9 = .ok (.invokevirtual 303, 3) by decide +kernel) rfl rfl (px_w4 wd_858 wd_859 wd_860 wd_719) wd_857 ⟨by decide, by decide, by decide +kernel⟩ (by decide)) rfl sb_nil))))))
  (ms_cons
  (sb_cons (pc2 := 13) (sx_aload_n (show decode cX12_opens 12 = .ok (.aload_n 0, 1) by decide +kernel) rfl) rfl
    (sb_cons (pc2 := 14) (sx_dup (show decode cX12_opens 13 = .ok (.dup, 1) by decide +kernel)) rfl
    (sb_cons (pc2 := 17) (sx_getf (show decode cX12_opens 14 = .ok (.getfield 309, 3) by decide +kernel) rfl iX12 (by decide) wd_865) rfl
    (sb_cons (pc2 := 18) (sx_iconst (show decode cX12_opens 17 = .ok (.iconst 1, 1) by decide +kernel) (by decide)) rfl
    (sb_cons (pc2 := 19) (sx_iadd (show decode cX12_opens 18 = .ok (.iadd, 1) by decide +kernel)) rfl
    (sb_cons (pc2 := 22) (sx_puti (show decode cX12_opens 19 = .ok (.putfield 309, 3) by decide +kernel) rfl iX12 tyX12_ok nmX12 (by decide) wd_865 rfl (Or.inl rfl)) rfl
    (sb_cons (pc2 := 23) (sx_aload_n (show decode cX12_opens 22 = .ok (.aload_n 0, 1) by decide +kernel) rfl) rfl
    (sb_cons (pc2 := 26) (sx_cV (Y' := YX12_isWrong) (q := (RX12, TX12, 69)) rfl (show decode cX12_opens 23 = .ok (.invokevirtual 299, 3) by decide +kernel) rfl rfl (px_w4 wd_854 wd_855 wd_856 wd_719) wd_853 ⟨by decide, by decide, by decide +kernel⟩ (by decide)) rfl
    (sb_cons (pc2 := 29) (sx_if_ne (show decode cX12_opens 26 = .ok (.ifCond .ne 7, 3) by decide +kernel) (by decide)) rfl
    (sb_cons (pc2 := 30) (sx_aload_n (show decode cX12_opens 29 = .ok (.aload_n 0, 1) by decide +kernel) rfl) rfl
    (sb_cons (pc2 := 33) (sx_cV (Y' := YX12_next) (q := (RX12, TX12, 69)) rfl (show decode cX12_opens 30 = .ok (.invokevirtual 306, 3) by decide +kernel) rfl rfl (px_w4 wd_862 wd_863 wd_864 wd_719) wd_861 ⟨by decide, by decide, by decide +kernel⟩ (by decide)) rfl sb_nil)))))))))))
  (ms_cons
  (sb_cons (pc2 := 34) (sx_retv (show decode cX12_opens 33 = .ok (.return_, 1) by decide +kernel) rfl) rfl sb_nil)
  ms_nil)))
def kX12_emit (X : px_X) : px_B := [(0, [], [px_aload 0, px_getf 12 39, px_push (.int 160), px_aload 0, px_getf 12 56, (px_i2 fun x y => x * y), px_aload 0, px_getf 12 63, (px_i2 fun x y => x + y), px_iload 1, px_iast 0, px_aload 0, px_getf 12 40, px_push (.int 160), px_aload 0, px_getf 12 56, (px_i2 fun x y => x * y), px_aload 0, px_getf 12 63, (px_i2 fun x y => x + y), px_iload 2, px_iast 0, px_aload 0, px_dup, px_getf 12 63, px_push (.int 1), (px_i2 fun x y => x + y), px_puti 12 63, px_retv], 49)]
set_option maxRecDepth 100000 in
set_option maxHeartbeats 8000000 in
theorem sX12_emit (d : Nat) (X : px_X) : px_MS d X YX12_emit (kX12_emit X) :=
  (ms_cons
  (sb_cons (pc2 := 1) (sx_aload_n (show decode cX12_emit 0 = .ok (.aload_n 0, 1) by decide +kernel) rfl) rfl
    (sb_cons (pc2 := 4) (sx_getf (show decode cX12_emit 1 = .ok (.getfield 99, 3) by decide +kernel) rfl iX12 (by decide) wd_700) rfl
    (sb_cons (pc2 := 7) (sx_sipush (show decode cX12_emit 4 = .ok (.sipush 160, 3) by decide +kernel) (by decide)) rfl
    (sb_cons (pc2 := 8) (sx_aload_n (show decode cX12_emit 7 = .ok (.aload_n 0, 1) by decide +kernel) rfl) rfl
    (sb_cons (pc2 := 11) (sx_getf (show decode cX12_emit 8 = .ok (.getfield 312, 3) by decide +kernel) rfl iX12 (by decide) wd_866) rfl
    (sb_cons (pc2 := 12) (sx_imul (show decode cX12_emit 11 = .ok (.imul, 1) by decide +kernel)) rfl
    (sb_cons (pc2 := 13) (sx_aload_n (show decode cX12_emit 12 = .ok (.aload_n 0, 1) by decide +kernel) rfl) rfl
    (sb_cons (pc2 := 16) (sx_getf (show decode cX12_emit 13 = .ok (.getfield 315, 3) by decide +kernel) rfl iX12 (by decide) wd_867) rfl
    (sb_cons (pc2 := 17) (sx_iadd (show decode cX12_emit 16 = .ok (.iadd, 1) by decide +kernel)) rfl
    (sb_cons (pc2 := 18) (sx_iload_n (show decode cX12_emit 17 = .ok (.iload_n 1, 1) by decide +kernel) rfl) rfl
    (sb_cons (pc2 := 19) (sx_iast (show decode cX12_emit 18 = .ok (.iastore, 1) by decide +kernel)) rfl
    (sb_cons (pc2 := 20) (sx_aload_n (show decode cX12_emit 19 = .ok (.aload_n 0, 1) by decide +kernel) rfl) rfl
    (sb_cons (pc2 := 23) (sx_getf (show decode cX12_emit 20 = .ok (.getfield 102, 3) by decide +kernel) rfl iX12 (by decide) wd_701) rfl
    (sb_cons (pc2 := 26) (sx_sipush (show decode cX12_emit 23 = .ok (.sipush 160, 3) by decide +kernel) (by decide)) rfl
    (sb_cons (pc2 := 27) (sx_aload_n (show decode cX12_emit 26 = .ok (.aload_n 0, 1) by decide +kernel) rfl) rfl
    (sb_cons (pc2 := 30) (sx_getf (show decode cX12_emit 27 = .ok (.getfield 312, 3) by decide +kernel) rfl iX12 (by decide) wd_866) rfl
    (sb_cons (pc2 := 31) (sx_imul (show decode cX12_emit 30 = .ok (.imul, 1) by decide +kernel)) rfl
    (sb_cons (pc2 := 32) (sx_aload_n (show decode cX12_emit 31 = .ok (.aload_n 0, 1) by decide +kernel) rfl) rfl
    (sb_cons (pc2 := 35) (sx_getf (show decode cX12_emit 32 = .ok (.getfield 315, 3) by decide +kernel) rfl iX12 (by decide) wd_867) rfl
    (sb_cons (pc2 := 36) (sx_iadd (show decode cX12_emit 35 = .ok (.iadd, 1) by decide +kernel)) rfl
    (sb_cons (pc2 := 37) (sx_iload_n (show decode cX12_emit 36 = .ok (.iload_n 2, 1) by decide +kernel) rfl) rfl
    (sb_cons (pc2 := 38) (sx_iast (show decode cX12_emit 37 = .ok (.iastore, 1) by decide +kernel)) rfl
    (sb_cons (pc2 := 39) (sx_aload_n (show decode cX12_emit 38 = .ok (.aload_n 0, 1) by decide +kernel) rfl) rfl
    (sb_cons (pc2 := 40) (sx_dup (show decode cX12_emit 39 = .ok (.dup, 1) by decide +kernel)) rfl
    (sb_cons (pc2 := 43) (sx_getf (show decode cX12_emit 40 = .ok (.getfield 315, 3) by decide +kernel) rfl iX12 (by decide) wd_867) rfl
    (sb_cons (pc2 := 44) (sx_iconst (show decode cX12_emit 43 = .ok (.iconst 1, 1) by decide +kernel) (by decide)) rfl
    (sb_cons (pc2 := 45) (sx_iadd (show decode cX12_emit 44 = .ok (.iadd, 1) by decide +kernel)) rfl
    (sb_cons (pc2 := 48) (sx_puti (show decode cX12_emit 45 = .ok (.putfield 315, 3) by decide +kernel) rfl iX12 tyX12_ok nmX12 (by decide) wd_867 rfl (Or.inl rfl)) rfl
    (sb_cons (pc2 := 49) (sx_retv (show decode cX12_emit 48 = .ok (.return_, 1) by decide +kernel) rfl) rfl sb_nil)))))))))))))))))))))))))))))
  ms_nil)
def kX12_reads (X : px_X) : px_B := [(0, [], [px_aload 0, px_push (.int 1), px_puti 12 56, px_aload 0, px_push (.int 0), px_puti 12 57, px_aload 0, px_push (.int (-1)), px_puti 12 61, px_aload 0, px_push (.int 0), px_puti 12 62, px_aload 0, px_push (.int 0), px_puti 12 63, px_push (.int 0), px_istore 1, px_aload 0, px_cV X 211 1 12], 31),
  (31, [true, true], [px_aload 0, px_cV X 214 1 12, px_if1 (fun x => decide (¬ x = 0)) 97, px_aload 0, px_getf 12 59, px_push (.int 300), px_if2 (fun x y => decide (¬ x = y)) 97, px_iload 1, px_push (.int 6), px_if2 (fun x y => decide (¬ x = y)) 61, px_aload 0, px_cV X 215 1 12, px_goto 31], 61),
  (61, [true, true], [px_aload 0, px_getf 12 41, px_push (.int 8), px_iload 1, (px_i2 fun x y => x + y), px_aload 0, px_getf 12 63, px_iast 0, px_iinc 1 1, px_aload 0, px_push (.int 300), px_cV X 216 2 12, px_aload 0, px_cV X 220 1 12, px_aload 0, px_push (.int 59), px_cV X 216 2 12, px_goto 31], 97),
  (97, [true, true], [px_aload 0, px_getf 12 41, px_push (.int 8), px_iload 1, (px_i2 fun x y => x + y), px_aload 0, px_getf 12 63, px_iast 0, px_aload 0, px_push (.int 0), px_cV X 216 2 12, px_iload 1, px_reti], 117)]
set_option maxRecDepth 100000 in
set_option maxHeartbeats 8000000 in
theorem sX12_reads (d : Nat) (X : px_X) : px_MS d X YX12_reads (kX12_reads X) :=
  (ms_cons
  (sb_cons (pc2 := 1) (sx_aload_n (show decode cX12_reads 0 = .ok (.aload_n 0, 1) by decide +kernel) rfl) rfl
    (sb_cons (pc2 := 2) (sx_iconst (show decode cX12_reads 1 = .ok (.iconst 1, 1) by decide +kernel) (by decide)) rfl
    (sb_cons (pc2 := 5) (sx_puti (show decode cX12_reads 2 = .ok (.putfield 312, 3) by decide +kernel) rfl iX12 tyX12_ok nmX12 (by decide) wd_866 rfl (Or.inl rfl)) rfl
    (sb_cons (pc2 := 6) (sx_aload_n (show decode cX12_reads 5 = .ok (.aload_n 0, 1) by decide +kernel) rfl) rfl
    (sb_cons (pc2 := 7) (sx_iconst (show decode cX12_reads 6 = .ok (.iconst 0, 1) by decide +kernel) (by decide)) rfl
    (sb_cons (pc2 := 10) (sx_puti (show decode cX12_reads 7 = .ok (.putfield 269, 3) by decide +kernel) rfl iX12 tyX12_ok nmX12 (by decide) wd_830 rfl (Or.inl rfl)) rfl
    (sb_cons (pc2 := 11) (sx_aload_n (show decode cX12_reads 10 = .ok (.aload_n 0, 1) by decide +kernel) rfl) rfl
    (sb_cons (pc2 := 12) (sx_iconst (show decode cX12_reads 11 = .ok (.iconst (-1), 1) by decide +kernel) (by decide)) rfl
    (sb_cons (pc2 := 15) (sx_puti (show decode cX12_reads 12 = .ok (.putfield 296, 3) by decide +kernel) rfl iX12 tyX12_ok nmX12 (by decide) wd_852 rfl (Or.inl rfl)) rfl
    (sb_cons (pc2 := 16) (sx_aload_n (show decode cX12_reads 15 = .ok (.aload_n 0, 1) by decide +kernel) rfl) rfl
    (sb_cons (pc2 := 17) (sx_iconst (show decode cX12_reads 16 = .ok (.iconst 0, 1) by decide +kernel) (by decide)) rfl
    (sb_cons (pc2 := 20) (sx_puti (show decode cX12_reads 17 = .ok (.putfield 309, 3) by decide +kernel) rfl iX12 tyX12_ok nmX12 (by decide) wd_865 rfl (Or.inl rfl)) rfl
    (sb_cons (pc2 := 21) (sx_aload_n (show decode cX12_reads 20 = .ok (.aload_n 0, 1) by decide +kernel) rfl) rfl
    (sb_cons (pc2 := 22) (sx_iconst (show decode cX12_reads 21 = .ok (.iconst 0, 1) by decide +kernel) (by decide)) rfl
    (sb_cons (pc2 := 25) (sx_puti (show decode cX12_reads 22 = .ok (.putfield 315, 3) by decide +kernel) rfl iX12 tyX12_ok nmX12 (by decide) wd_867 rfl (Or.inl rfl)) rfl
    (sb_cons (pc2 := 26) (sx_iconst (show decode cX12_reads 25 = .ok (.iconst 0, 1) by decide +kernel) (by decide)) rfl
    (sb_cons (pc2 := 27) (sx_istore_n (show decode cX12_reads 26 = .ok (.istore_n 1, 1) by decide +kernel) rfl) rfl
    (sb_cons (pc2 := 28) (sx_aload_n (show decode cX12_reads 27 = .ok (.aload_n 0, 1) by decide +kernel) rfl) rfl
    (sb_cons (pc2 := 31) (sx_cV (Y' := YX12_next) (q := (RX12, TX12, 69)) rfl (show decode cX12_reads 28 = .ok (.invokevirtual 306, 3) by decide +kernel) rfl rfl (px_w4 wd_862 wd_863 wd_864 wd_719) wd_861 ⟨by decide, by decide, by decide +kernel⟩ (by decide)) rfl sb_nil)))))))))))))))))))
  (ms_cons
  (sb_cons (pc2 := 32) (sx_aload_n (show decode cX12_reads 31 = .ok (.aload_n 0, 1) by decide +kernel) rfl) rfl
    (sb_cons (pc2 := 35) (sx_cV (Y' := YX12_isWrong) (q := (RX12, TX12, 69)) rfl (show decode cX12_reads 32 = .ok (.invokevirtual 299, 3) by decide +kernel) rfl rfl (px_w4 wd_854 wd_855 wd_856 wd_719) wd_853 ⟨by decide, by decide, by decide +kernel⟩ (by decide)) rfl
    (sb_cons (pc2 := 38) (sx_if_ne (show decode cX12_reads 35 = .ok (.ifCond .ne 62, 3) by decide +kernel) (by decide)) rfl
    (sb_cons (pc2 := 39) (sx_aload_n (show decode cX12_reads 38 = .ok (.aload_n 0, 1) by decide +kernel) rfl) rfl
    (sb_cons (pc2 := 42) (sx_getf (show decode cX12_reads 39 = .ok (.getfield 278, 3) by decide +kernel) rfl iX12 (by decide) wd_836) rfl
    (sb_cons (pc2 := 45) (sx_sipush (show decode cX12_reads 42 = .ok (.sipush 300, 3) by decide +kernel) (by decide)) rfl
    (sb_cons (pc2 := 48) (sx_icmp_ne (show decode cX12_reads 45 = .ok (.if_icmp .ne 52, 3) by decide +kernel) (by decide)) rfl
    (sb_cons (pc2 := 49) (sx_iload_n (show decode cX12_reads 48 = .ok (.iload_n 1, 1) by decide +kernel) rfl) rfl
    (sb_cons (pc2 := 51) (sx_bipush (show decode cX12_reads 49 = .ok (.bipush 6, 2) by decide +kernel) (by decide)) rfl
    (sb_cons (pc2 := 54) (sx_icmp_ne (show decode cX12_reads 51 = .ok (.if_icmp .ne 10, 3) by decide +kernel) (by decide)) rfl
    (sb_cons (pc2 := 55) (sx_aload_n (show decode cX12_reads 54 = .ok (.aload_n 0, 1) by decide +kernel) rfl) rfl
    (sb_cons (pc2 := 58) (sx_cV (Y' := YX12_cannot) (q := (RX12, TX12, 69)) rfl (show decode cX12_reads 55 = .ok (.invokevirtual 303, 3) by decide +kernel) rfl rfl (px_w4 wd_858 wd_859 wd_860 wd_719) wd_857 ⟨by decide, by decide, by decide +kernel⟩ (by decide)) rfl
    (sb_cons (pc2 := 61) (px_snd_goto (show decode cX12_reads 58 = .ok (.goto (-27), 3) by decide +kernel) (by decide)) rfl sb_nil)))))))))))))
  (ms_cons
  (sb_cons (pc2 := 62) (sx_aload_n (show decode cX12_reads 61 = .ok (.aload_n 0, 1) by decide +kernel) rfl) rfl
    (sb_cons (pc2 := 65) (sx_getf (show decode cX12_reads 62 = .ok (.getfield 105, 3) by decide +kernel) rfl iX12 (by decide) wd_702) rfl
    (sb_cons (pc2 := 67) (sx_bipush (show decode cX12_reads 65 = .ok (.bipush 8, 2) by decide +kernel) (by decide)) rfl
    (sb_cons (pc2 := 68) (sx_iload_n (show decode cX12_reads 67 = .ok (.iload_n 1, 1) by decide +kernel) rfl) rfl
    (sb_cons (pc2 := 69) (sx_iadd (show decode cX12_reads 68 = .ok (.iadd, 1) by decide +kernel)) rfl
    (sb_cons (pc2 := 70) (sx_aload_n (show decode cX12_reads 69 = .ok (.aload_n 0, 1) by decide +kernel) rfl) rfl
    (sb_cons (pc2 := 73) (sx_getf (show decode cX12_reads 70 = .ok (.getfield 315, 3) by decide +kernel) rfl iX12 (by decide) wd_867) rfl
    (sb_cons (pc2 := 74) (sx_iast (show decode cX12_reads 73 = .ok (.iastore, 1) by decide +kernel)) rfl
    (sb_cons (pc2 := 77) (sx_iinc (show decode cX12_reads 74 = .ok (.iinc 1 1, 3) by decide +kernel) (by decide)) rfl
    (sb_cons (pc2 := 78) (sx_aload_n (show decode cX12_reads 77 = .ok (.aload_n 0, 1) by decide +kernel) rfl) rfl
    (sb_cons (pc2 := 81) (sx_sipush (show decode cX12_reads 78 = .ok (.sipush 300, 3) by decide +kernel) (by decide)) rfl
    (sb_cons (pc2 := 84) (sx_cV (Y' := YX12_need) (q := (RX12, TX12, 69)) rfl (show decode cX12_reads 81 = .ok (.invokevirtual 318, 3) by decide +kernel) rfl rfl (px_w4 wd_869 wd_870 wd_871 wd_719) wd_868 ⟨by decide, by decide, by decide +kernel⟩ (by decide)) rfl
    (sb_cons (pc2 := 85) (sx_aload_n (show decode cX12_reads 84 = .ok (.aload_n 0, 1) by decide +kernel) rfl) rfl
    (sb_cons (pc2 := 88) (sx_cV (Y' := YX12_either) (q := (RX12, TX12, 69)) rfl (show decode cX12_reads 85 = .ok (.invokevirtual 322, 3) by decide +kernel) rfl rfl (px_w4 wd_873 wd_874 wd_875 wd_719) wd_872 ⟨by decide, by decide, by decide +kernel⟩ (by decide)) rfl
    (sb_cons (pc2 := 89) (sx_aload_n (show decode cX12_reads 88 = .ok (.aload_n 0, 1) by decide +kernel) rfl) rfl
    (sb_cons (pc2 := 91) (sx_bipush (show decode cX12_reads 89 = .ok (.bipush 59, 2) by decide +kernel) (by decide)) rfl
    (sb_cons (pc2 := 94) (sx_cV (Y' := YX12_need) (q := (RX12, TX12, 69)) rfl (show decode cX12_reads 91 = .ok (.invokevirtual 318, 3) by decide +kernel) rfl rfl (px_w4 wd_869 wd_870 wd_871 wd_719) wd_868 ⟨by decide, by decide, by decide +kernel⟩ (by decide)) rfl
    (sb_cons (pc2 := 97) (px_snd_goto (show decode cX12_reads 94 = .ok (.goto (-63), 3) by decide +kernel) (by decide)) rfl sb_nil))))))))))))))))))
  (ms_cons
  (sb_cons (pc2 := 98) (sx_aload_n (show decode cX12_reads 97 = .ok (.aload_n 0, 1) by decide +kernel) rfl) rfl
    (sb_cons (pc2 := 101) (sx_getf (show decode cX12_reads 98 = .ok (.getfield 105, 3) by decide +kernel) rfl iX12 (by decide) wd_702) rfl
    (sb_cons (pc2 := 103) (sx_bipush (show decode cX12_reads 101 = .ok (.bipush 8, 2) by decide +kernel) (by decide)) rfl
    (sb_cons (pc2 := 104) (sx_iload_n (show decode cX12_reads 103 = .ok (.iload_n 1, 1) by decide +kernel) rfl) rfl
    (sb_cons (pc2 := 105) (sx_iadd (show decode cX12_reads 104 = .ok (.iadd, 1) by decide +kernel)) rfl
    (sb_cons (pc2 := 106) (sx_aload_n (show decode cX12_reads 105 = .ok (.aload_n 0, 1) by decide +kernel) rfl) rfl
    (sb_cons (pc2 := 109) (sx_getf (show decode cX12_reads 106 = .ok (.getfield 315, 3) by decide +kernel) rfl iX12 (by decide) wd_867) rfl
    (sb_cons (pc2 := 110) (sx_iast (show decode cX12_reads 109 = .ok (.iastore, 1) by decide +kernel)) rfl
    (sb_cons (pc2 := 111) (sx_aload_n (show decode cX12_reads 110 = .ok (.aload_n 0, 1) by decide +kernel) rfl) rfl
    (sb_cons (pc2 := 112) (sx_iconst (show decode cX12_reads 111 = .ok (.iconst 0, 1) by decide +kernel) (by decide)) rfl
    (sb_cons (pc2 := 115) (sx_cV (Y' := YX12_need) (q := (RX12, TX12, 69)) rfl (show decode cX12_reads 112 = .ok (.invokevirtual 318, 3) by decide +kernel) rfl rfl (px_w4 wd_869 wd_870 wd_871 wd_719) wd_868 ⟨by decide, by decide, by decide +kernel⟩ (by decide)) rfl
    (sb_cons (pc2 := 116) (sx_iload_n (show decode cX12_reads 115 = .ok (.iload_n 1, 1) by decide +kernel) rfl) rfl
    (sb_cons (pc2 := 117) (sx_reti (show decode cX12_reads 116 = .ok (.ireturn, 1) by decide +kernel) rfl) rfl sb_nil)))))))))))))
  ms_nil))))
def kX12_either (X : px_X) : px_B := [(0, [], [px_aload 0, px_cV X 221 1 12], 4),
  (4, [true], [px_aload 0, px_cV X 214 1 12, px_if1 (fun x => decide (¬ x = 0)) 38, px_aload 0, px_getf 12 59, px_push (.int 301), px_if2 (fun x y => decide (¬ x = y)) 38, px_aload 0, px_cV X 211 1 12, px_aload 0, px_cV X 221 1 12, px_aload 0, px_push (.int 2), px_push (.int 0), px_cV X 218 3 12, px_goto 4], 38),
  (38, [false], [px_retv], 39)]
set_option maxRecDepth 100000 in
set_option maxHeartbeats 8000000 in
theorem sX12_either (d : Nat) (X : px_X) : px_MS d X YX12_either (kX12_either X) :=
  (ms_cons
  (sb_cons (pc2 := 1) (sx_aload_n (show decode cX12_either 0 = .ok (.aload_n 0, 1) by decide +kernel) rfl) rfl
    (sb_cons (pc2 := 4) (sx_cV (Y' := YX12_both) (q := (RX12, TX12, 69)) rfl (show decode cX12_either 1 = .ok (.invokevirtual 325, 3) by decide +kernel) rfl rfl (px_w4 wd_877 wd_878 wd_879 wd_719) wd_876 ⟨by decide, by decide, by decide +kernel⟩ (by decide)) rfl sb_nil))
  (ms_cons
  (sb_cons (pc2 := 5) (sx_aload_n (show decode cX12_either 4 = .ok (.aload_n 0, 1) by decide +kernel) rfl) rfl
    (sb_cons (pc2 := 8) (sx_cV (Y' := YX12_isWrong) (q := (RX12, TX12, 69)) rfl (show decode cX12_either 5 = .ok (.invokevirtual 299, 3) by decide +kernel) rfl rfl (px_w4 wd_854 wd_855 wd_856 wd_719) wd_853 ⟨by decide, by decide, by decide +kernel⟩ (by decide)) rfl
    (sb_cons (pc2 := 11) (sx_if_ne (show decode cX12_either 8 = .ok (.ifCond .ne 30, 3) by decide +kernel) (by decide)) rfl
    (sb_cons (pc2 := 12) (sx_aload_n (show decode cX12_either 11 = .ok (.aload_n 0, 1) by decide +kernel) rfl) rfl
    (sb_cons (pc2 := 15) (sx_getf (show decode cX12_either 12 = .ok (.getfield 278, 3) by decide +kernel) rfl iX12 (by decide) wd_836) rfl
    (sb_cons (pc2 := 18) (sx_sipush (show decode cX12_either 15 = .ok (.sipush 301, 3) by decide +kernel) (by decide)) rfl
    (sb_cons (pc2 := 21) (sx_icmp_ne (show decode cX12_either 18 = .ok (.if_icmp .ne 20, 3) by decide +kernel) (by decide)) rfl
    (sb_cons (pc2 := 22) (sx_aload_n (show decode cX12_either 21 = .ok (.aload_n 0, 1) by decide +kernel) rfl) rfl
    (sb_cons (pc2 := 25) (sx_cV (Y' := YX12_next) (q := (RX12, TX12, 69)) rfl (show decode cX12_either 22 = .ok (.invokevirtual 306, 3) by decide +kernel) rfl rfl (px_w4 wd_862 wd_863 wd_864 wd_719) wd_861 ⟨by decide, by decide, by decide +kernel⟩ (by decide)) rfl
    (sb_cons (pc2 := 26) (sx_aload_n (show decode cX12_either 25 = .ok (.aload_n 0, 1) by decide +kernel) rfl) rfl
    (sb_cons (pc2 := 29) (sx_cV (Y' := YX12_both) (q := (RX12, TX12, 69)) rfl (show decode cX12_either 26 = .ok (.invokevirtual 325, 3) by decide +kernel) rfl rfl (px_w4 wd_877 wd_878 wd_879 wd_719) wd_876 ⟨by decide, by decide, by decide +kernel⟩ (by decide)) rfl
    (sb_cons (pc2 := 30) (sx_aload_n (show decode cX12_either 29 = .ok (.aload_n 0, 1) by decide +kernel) rfl) rfl
    (sb_cons (pc2 := 31) (sx_iconst (show decode cX12_either 30 = .ok (.iconst 2, 1) by decide +kernel) (by decide)) rfl
    (sb_cons (pc2 := 32) (sx_iconst (show decode cX12_either 31 = .ok (.iconst 0, 1) by decide +kernel) (by decide)) rfl
    (sb_cons (pc2 := 35) (sx_cV (Y' := YX12_emit) (q := (RX12, TX12, 69)) rfl (show decode cX12_either 32 = .ok (.invokevirtual 328, 3) by decide +kernel) rfl rfl (px_w4 wd_881 wd_882 wd_883 wd_719) wd_880 ⟨by decide, by decide, by decide +kernel⟩ (by decide)) rfl
    (sb_cons (pc2 := 38) (px_snd_goto (show decode cX12_either 35 = .ok (.goto (-31), 3) by decide +kernel) (by decide)) rfl sb_nil))))))))))))))))
  (ms_cons
  (sb_cons (pc2 := 39) (sx_retv (show decode cX12_either 38 = .ok (.return_, 1) by decide +kernel) rfl) rfl sb_nil)
  ms_nil)))
def kX12_both (X : px_X) : px_B := [(0, [], [px_aload 0, px_cV X 222 1 12], 4),
  (4, [true], [px_aload 0, px_cV X 214 1 12, px_if1 (fun x => decide (¬ x = 0)) 38, px_aload 0, px_getf 12 59, px_push (.int 302), px_if2 (fun x y => decide (¬ x = y)) 38, px_aload 0, px_cV X 211 1 12, px_aload 0, px_cV X 222 1 12, px_aload 0, px_push (.int 3), px_push (.int 0), px_cV X 218 3 12, px_goto 4], 38),
  (38, [false], [px_retv], 39)]
set_option maxRecDepth 100000 in
set_option maxHeartbeats 8000000 in
theorem sX12_both (d : Nat) (X : px_X) : px_MS d X YX12_both (kX12_both X) :=
  (ms_cons
  (sb_cons (pc2 := 1) (sx_aload_n (show decode cX12_both 0 = .ok (.aload_n 0, 1) by decide +kernel) rfl) rfl
    (sb_cons (pc2 := 4) (sx_cV (Y' := YX12_not) (q := (RX12, TX12, 69)) rfl (show decode cX12_both 1 = .ok (.invokevirtual 331, 3) by decide +kernel) rfl rfl (px_w4 wd_885 wd_886 wd_887 wd_719) wd_884 ⟨by decide, by decide, by decide +kernel⟩ (by decide)) rfl sb_nil))
  (ms_cons
  (sb_cons (pc2 := 5) (sx_aload_n (show decode cX12_both 4 = .ok (.aload_n 0, 1) by decide +kernel) rfl) rfl
    (sb_cons (pc2 := 8) (sx_cV (Y' := YX12_isWrong) (q := (RX12, TX12, 69)) rfl (show decode cX12_both 5 = .ok (.invokevirtual 299, 3) by decide +kernel) rfl rfl (px_w4 wd_854 wd_855 wd_856 wd_719) wd_853 ⟨by decide, by decide, by decide +kernel⟩ (by decide)) rfl
    (sb_cons (pc2 := 11) (sx_if_ne (show decode cX12_both 8 = .ok (.ifCond .ne 30, 3) by decide +kernel) (by decide)) rfl
    (sb_cons (pc2 := 12) (sx_aload_n (show decode cX12_both 11 = .ok (.aload_n 0, 1) by decide +kernel) rfl) rfl
    (sb_cons (pc2 := 15) (sx_getf (show decode cX12_both 12 = .ok (.getfield 278, 3) by decide +kernel) rfl iX12 (by decide) wd_836) rfl
    (sb_cons (pc2 := 18) (sx_sipush (show decode cX12_both 15 = .ok (.sipush 302, 3) by decide +kernel) (by decide)) rfl
    (sb_cons (pc2 := 21) (sx_icmp_ne (show decode cX12_both 18 = .ok (.if_icmp .ne 20, 3) by decide +kernel) (by decide)) rfl
    (sb_cons (pc2 := 22) (sx_aload_n (show decode cX12_both 21 = .ok (.aload_n 0, 1) by decide +kernel) rfl) rfl
    (sb_cons (pc2 := 25) (sx_cV (Y' := YX12_next) (q := (RX12, TX12, 69)) rfl (show decode cX12_both 22 = .ok (.invokevirtual 306, 3) by decide +kernel) rfl rfl (px_w4 wd_862 wd_863 wd_864 wd_719) wd_861 ⟨by decide, by decide, by decide +kernel⟩ (by decide)) rfl
    (sb_cons (pc2 := 26) (sx_aload_n (show decode cX12_both 25 = .ok (.aload_n 0, 1) by decide +kernel) rfl) rfl
    (sb_cons (pc2 := 29) (sx_cV (Y' := YX12_not) (q := (RX12, TX12, 69)) rfl (show decode cX12_both 26 = .ok (.invokevirtual 331, 3) by decide +kernel) rfl rfl (px_w4 wd_885 wd_886 wd_887 wd_719) wd_884 ⟨by decide, by decide, by decide +kernel⟩ (by decide)) rfl
    (sb_cons (pc2 := 30) (sx_aload_n (show decode cX12_both 29 = .ok (.aload_n 0, 1) by decide +kernel) rfl) rfl
    (sb_cons (pc2 := 31) (sx_iconst (show decode cX12_both 30 = .ok (.iconst 3, 1) by decide +kernel) (by decide)) rfl
    (sb_cons (pc2 := 32) (sx_iconst (show decode cX12_both 31 = .ok (.iconst 0, 1) by decide +kernel) (by decide)) rfl
    (sb_cons (pc2 := 35) (sx_cV (Y' := YX12_emit) (q := (RX12, TX12, 69)) rfl (show decode cX12_both 32 = .ok (.invokevirtual 328, 3) by decide +kernel) rfl rfl (px_w4 wd_881 wd_882 wd_883 wd_719) wd_880 ⟨by decide, by decide, by decide +kernel⟩ (by decide)) rfl
    (sb_cons (pc2 := 38) (px_snd_goto (show decode cX12_both 35 = .ok (.goto (-31), 3) by decide +kernel) (by decide)) rfl sb_nil))))))))))))))))
  (ms_cons
  (sb_cons (pc2 := 39) (sx_retv (show decode cX12_both 38 = .ok (.return_, 1) by decide +kernel) rfl) rfl sb_nil)
  ms_nil)))
def kX12_not (X : px_X) : px_B := [(0, [], [px_aload 0, px_cV X 214 1 12, px_if1 (fun x => decide (x = 0)) 8, px_retv], 8),
  (8, [true, false], [px_aload 0, px_getf 12 59, px_push (.int 303), px_if2 (fun x y => decide (¬ x = y)) 43, px_aload 0, px_cV X 217 1 12, px_aload 0, px_cV X 222 1 12, px_aload 0, px_dup, px_getf 12 62, px_push (.int 1), (px_i2 fun x y => x - y), px_puti 12 62, px_aload 0, px_push (.int 4), px_push (.int 0), px_cV X 218 3 12, px_retv], 43),
  (43, [true, false], [px_aload 0, px_cV X 223 1 12, px_aload 0, px_cV X 214 1 12, px_if1 (fun x => decide (¬ x = 0)) 102, px_aload 0, px_getf 12 59, px_push (.int 60), px_if2 (fun x y => decide (x = y)) 72, px_aload 0, px_getf 12 59, px_push (.int 61), px_if2 (fun x y => decide (¬ x = y)) 102], 72),
  (72, [true, false], [px_aload 0, px_getf 12 59, px_push (.int 60), px_if2 (fun x y => decide (¬ x = y)) 85, px_push (.int 5), px_goto 87], 85),
  (85, [true, false], [px_push (.int 6)], 87),
  (87, [true, false], [px_istore 1, px_aload 0, px_cV X 211 1 12, px_aload 0, px_cV X 223 1 12, px_aload 0, px_iload 1, px_push (.int 0), px_cV X 218 3 12], 102),
  (102, [false, false], [px_retv], 103)]
set_option maxRecDepth 100000 in
set_option maxHeartbeats 8000000 in
theorem sX12_not (d : Nat) (X : px_X) : px_MS d X YX12_not (kX12_not X) :=
  (ms_cons
  (sb_cons (pc2 := 1) (sx_aload_n (show decode cX12_not 0 = .ok (.aload_n 0, 1) by decide +kernel) rfl) rfl
    (sb_cons (pc2 := 4) (sx_cV (Y' := YX12_isWrong) (q := (RX12, TX12, 69)) rfl (show decode cX12_not 1 = .ok (.invokevirtual 299, 3) by decide +kernel) rfl rfl (px_w4 wd_854 wd_855 wd_856 wd_719) wd_853 ⟨by decide, by decide, by decide +kernel⟩ (by decide)) rfl
    (sb_cons (pc2 := 7) (sx_if_eq (show decode cX12_not 4 = .ok (.ifCond .eq 4, 3) by decide +kernel) (by decide)) rfl
    (sb_cons (pc2 := 8) (sx_retv (show decode cX12_not 7 = .ok (.return_, 1) by decide +kernel) rfl) rfl sb_nil))))
  (ms_cons
  (sb_cons (pc2 := 9) (sx_aload_n (show decode cX12_not 8 = .ok (.aload_n 0, 1) by decide +kernel) rfl) rfl
    (sb_cons (pc2 := 12) (sx_getf (show decode cX12_not 9 = .ok (.getfield 278, 3) by decide +kernel) rfl iX12 (by decide) wd_836) rfl
    (sb_cons (pc2 := 15) (sx_sipush (show decode cX12_not 12 = .ok (.sipush 303, 3) by decide +kernel) (by decide)) rfl
    (sb_cons (pc2 := 18) (sx_icmp_ne (show decode cX12_not 15 = .ok (.if_icmp .ne 28, 3) by decide +kernel) (by decide)) rfl
    (sb_cons (pc2 := 19) (sx_aload_n (show decode cX12_not 18 = .ok (.aload_n 0, 1) by decide +kernel) rfl) rfl
    (sb_cons (pc2 := 22) (sx_cV (Y' := YX12_opens) (q := (RX12, TX12, 69)) rfl (show decode cX12_not 19 = .ok (.invokevirtual 334, 3) by decide +kernel) rfl rfl (px_w4 wd_889 wd_890 wd_891 wd_719) wd_888 ⟨by decide, by decide, by decide +kernel⟩ (by decide)) rfl
    (sb_cons (pc2 := 23) (sx_aload_n (show decode cX12_not 22 = .ok (.aload_n 0, 1) by decide +kernel) rfl) rfl
    (sb_cons (pc2 := 26) (sx_cV (Y' := YX12_not) (q := (RX12, TX12, 69)) rfl (show decode cX12_not 23 = .ok (.invokevirtual 331, 3) by decide +kernel) rfl rfl (px_w4 wd_885 wd_886 wd_887 wd_719) wd_884 ⟨by decide, by decide, by decide +kernel⟩ (by decide)) rfl
    (sb_cons (pc2 := 27) (sx_aload_n (show decode cX12_not 26 = .ok (.aload_n 0, 1) by decide +kernel) rfl) rfl
    (sb_cons (pc2 := 28) (sx_dup (show decode cX12_not 27 = .ok (.dup, 1) by decide +kernel)) rfl
    (sb_cons (pc2 := 31) (sx_getf (show decode cX12_not 28 = .ok (.getfield 309, 3) by decide +kernel) rfl iX12 (by decide) wd_865) rfl
    (sb_cons (pc2 := 32) (sx_iconst (show decode cX12_not 31 = .ok (.iconst 1, 1) by decide +kernel) (by decide)) rfl
    (sb_cons (pc2 := 33) (sx_isub (show decode cX12_not 32 = .ok (.isub, 1) by decide +kernel)) rfl
    (sb_cons (pc2 := 36) (sx_puti (show decode cX12_not 33 = .ok (.putfield 309, 3) by decide +kernel) rfl iX12 tyX12_ok nmX12 (by decide) wd_865 rfl (Or.inl rfl)) rfl
    (sb_cons (pc2 := 37) (sx_aload_n (show decode cX12_not 36 = .ok (.aload_n 0, 1) by decide +kernel) rfl) rfl
    (sb_cons (pc2 := 38) (sx_iconst (show decode cX12_not 37 = .ok (.iconst 4, 1) by decide +kernel) (by decide)) rfl
    (sb_cons (pc2 := 39) (sx_iconst (show decode cX12_not 38 = .ok (.iconst 0, 1) by decide +kernel) (by decide)) rfl
    (sb_cons (pc2 := 42) (sx_cV (Y' := YX12_emit) (q := (RX12, TX12, 69)) rfl (show decode cX12_not 39 = .ok (.invokevirtual 328, 3) by decide +kernel) rfl rfl (px_w4 wd_881 wd_882 wd_883 wd_719) wd_880 ⟨by decide, by decide, by decide +kernel⟩ (by decide)) rfl
    (sb_cons (pc2 := 43) (sx_retv (show decode cX12_not 42 = .ok (.return_, 1) by decide +kernel) rfl) rfl sb_nil)))))))))))))))))))
  (ms_cons
  (sb_cons (pc2 := 44) (sx_aload_n (show decode cX12_not 43 = .ok (.aload_n 0, 1) by decide +kernel) rfl) rfl
    (sb_cons (pc2 := 47) (sx_cV (Y' := YX12_added) (q := (RX12, TX12, 69)) rfl (show decode cX12_not 44 = .ok (.invokevirtual 337, 3) by decide +kernel) rfl rfl (px_w4 wd_893 wd_894 wd_895 wd_719) wd_892 ⟨by decide, by decide, by decide +kernel⟩ (by decide)) rfl
    (sb_cons (pc2 := 48) (sx_aload_n (show decode cX12_not 47 = .ok (.aload_n 0, 1) by decide +kernel) rfl) rfl
    (sb_cons (pc2 := 51) (sx_cV (Y' := YX12_isWrong) (q := (RX12, TX12, 69)) rfl (show decode cX12_not 48 = .ok (.invokevirtual 299, 3) by decide +kernel) rfl rfl (px_w4 wd_854 wd_855 wd_856 wd_719) wd_853 ⟨by decide, by decide, by decide +kernel⟩ (by decide)) rfl
    (sb_cons (pc2 := 54) (sx_if_ne (show decode cX12_not 51 = .ok (.ifCond .ne 51, 3) by decide +kernel) (by decide)) rfl
    (sb_cons (pc2 := 55) (sx_aload_n (show decode cX12_not 54 = .ok (.aload_n 0, 1) by decide +kernel) rfl) rfl
    (sb_cons (pc2 := 58) (sx_getf (show decode cX12_not 55 = .ok (.getfield 278, 3) by decide +kernel) rfl iX12 (by decide) wd_836) rfl
    (sb_cons (pc2 := 60) (sx_bipush (show decode cX12_not 58 = .ok (.bipush 60, 2) by decide +kernel) (by decide)) rfl
    (sb_cons (pc2 := 63) (sx_icmp_eq (show decode cX12_not 60 = .ok (.if_icmp .eq 12, 3) by decide +kernel) (by decide)) rfl
    (sb_cons (pc2 := 64) (sx_aload_n (show decode cX12_not 63 = .ok (.aload_n 0, 1) by decide +kernel) rfl) rfl
    (sb_cons (pc2 := 67) (sx_getf (show decode cX12_not 64 = .ok (.getfield 278, 3) by decide +kernel) rfl iX12 (by decide) wd_836) rfl
    (sb_cons (pc2 := 69) (sx_bipush (show decode cX12_not 67 = .ok (.bipush 61, 2) by decide +kernel) (by decide)) rfl
    (sb_cons (pc2 := 72) (sx_icmp_ne (show decode cX12_not 69 = .ok (.if_icmp .ne 33, 3) by decide +kernel) (by decide)) rfl sb_nil)))))))))))))
  (ms_cons
  (sb_cons (pc2 := 73) (sx_aload_n (show decode cX12_not 72 = .ok (.aload_n 0, 1) by decide +kernel) rfl) rfl
    (sb_cons (pc2 := 76) (sx_getf (show decode cX12_not 73 = .ok (.getfield 278, 3) by decide +kernel) rfl iX12 (by decide) wd_836) rfl
    (sb_cons (pc2 := 78) (sx_bipush (show decode cX12_not 76 = .ok (.bipush 60, 2) by decide +kernel) (by decide)) rfl
    (sb_cons (pc2 := 81) (sx_icmp_ne (show decode cX12_not 78 = .ok (.if_icmp .ne 7, 3) by decide +kernel) (by decide)) rfl
    (sb_cons (pc2 := 82) (sx_iconst (show decode cX12_not 81 = .ok (.iconst 5, 1) by decide +kernel) (by decide)) rfl
    (sb_cons (pc2 := 85) (px_snd_goto (show decode cX12_not 82 = .ok (.goto 5, 3) by decide +kernel) (by decide)) rfl sb_nil))))))
  (ms_cons
  (sb_cons (pc2 := 87) (sx_bipush (show decode cX12_not 85 = .ok (.bipush 6, 2) by decide +kernel) (by decide)) rfl sb_nil)
  (ms_cons
  (sb_cons (pc2 := 88) (sx_istore_n (show decode cX12_not 87 = .ok (.istore_n 1, 1) by decide +kernel) rfl) rfl
    (sb_cons (pc2 := 89) (sx_aload_n (show decode cX12_not 88 = .ok (.aload_n 0, 1) by decide +kernel) rfl) rfl
    (sb_cons (pc2 := 92) (sx_cV (Y' := YX12_next) (q := (RX12, TX12, 69)) rfl (show decode cX12_not 89 = .ok (.invokevirtual 306, 3) by decide +kernel) rfl rfl (px_w4 wd_862 wd_863 wd_864 wd_719) wd_861 ⟨by decide, by decide, by decide +kernel⟩ (by decide)) rfl
    (sb_cons (pc2 := 93) (sx_aload_n (show decode cX12_not 92 = .ok (.aload_n 0, 1) by decide +kernel) rfl) rfl
    (sb_cons (pc2 := 96) (sx_cV (Y' := YX12_added) (q := (RX12, TX12, 69)) rfl (show decode cX12_not 93 = .ok (.invokevirtual 337, 3) by decide +kernel) rfl rfl (px_w4 wd_893 wd_894 wd_895 wd_719) wd_892 ⟨by decide, by decide, by decide +kernel⟩ (by decide)) rfl
    (sb_cons (pc2 := 97) (sx_aload_n (show decode cX12_not 96 = .ok (.aload_n 0, 1) by decide +kernel) rfl) rfl
    (sb_cons (pc2 := 98) (sx_iload_n (show decode cX12_not 97 = .ok (.iload_n 1, 1) by decide +kernel) rfl) rfl
    (sb_cons (pc2 := 99) (sx_iconst (show decode cX12_not 98 = .ok (.iconst 0, 1) by decide +kernel) (by decide)) rfl
    (sb_cons (pc2 := 102) (sx_cV (Y' := YX12_emit) (q := (RX12, TX12, 69)) rfl (show decode cX12_not 99 = .ok (.invokevirtual 328, 3) by decide +kernel) rfl rfl (px_w4 wd_881 wd_882 wd_883 wd_719) wd_880 ⟨by decide, by decide, by decide +kernel⟩ (by decide)) rfl sb_nil)))))))))
  (ms_cons
  (sb_cons (pc2 := 103) (sx_retv (show decode cX12_not 102 = .ok (.return_, 1) by decide +kernel) rfl) rfl sb_nil)
  ms_nil)))))))
def kX12_added (X : px_X) : px_B := [(0, [], [px_aload 0, px_cV X 224 1 12], 4),
  (4, [true, false], [px_aload 0, px_cV X 214 1 12, px_if1 (fun x => decide (¬ x = 0)) 63, px_aload 0, px_getf 12 59, px_push (.int 43), px_if2 (fun x y => decide (x = y)) 29, px_aload 0, px_getf 12 59, px_push (.int 45), px_if2 (fun x y => decide (¬ x = y)) 63], 29),
  (29, [true, false], [px_aload 0, px_getf 12 59, px_push (.int 43), px_if2 (fun x y => decide (¬ x = y)) 43, px_push (.int 7), px_goto 45], 43),
  (43, [true, false], [px_push (.int 8)], 45),
  (45, [true, false], [px_istore 1, px_aload 0, px_cV X 211 1 12, px_aload 0, px_cV X 224 1 12, px_aload 0, px_iload 1, px_push (.int 0), px_cV X 218 3 12, px_goto 4], 63),
  (63, [false, false], [px_retv], 64)]
set_option maxRecDepth 100000 in
set_option maxHeartbeats 8000000 in
theorem sX12_added (d : Nat) (X : px_X) : px_MS d X YX12_added (kX12_added X) :=
  (ms_cons
  (sb_cons (pc2 := 1) (sx_aload_n (show decode cX12_added 0 = .ok (.aload_n 0, 1) by decide +kernel) rfl) rfl
    (sb_cons (pc2 := 4) (sx_cV (Y' := YX12_term) (q := (RX12, TX12, 69)) rfl (show decode cX12_added 1 = .ok (.invokevirtual 340, 3) by decide +kernel) rfl rfl (px_w4 wd_897 wd_898 wd_899 wd_719) wd_896 ⟨by decide, by decide, by decide +kernel⟩ (by decide)) rfl sb_nil))
  (ms_cons
  (sb_cons (pc2 := 5) (sx_aload_n (show decode cX12_added 4 = .ok (.aload_n 0, 1) by decide +kernel) rfl) rfl
    (sb_cons (pc2 := 8) (sx_cV (Y' := YX12_isWrong) (q := (RX12, TX12, 69)) rfl (show decode cX12_added 5 = .ok (.invokevirtual 299, 3) by decide +kernel) rfl rfl (px_w4 wd_854 wd_855 wd_856 wd_719) wd_853 ⟨by decide, by decide, by decide +kernel⟩ (by decide)) rfl
    (sb_cons (pc2 := 11) (sx_if_ne (show decode cX12_added 8 = .ok (.ifCond .ne 55, 3) by decide +kernel) (by decide)) rfl
    (sb_cons (pc2 := 12) (sx_aload_n (show decode cX12_added 11 = .ok (.aload_n 0, 1) by decide +kernel) rfl) rfl
    (sb_cons (pc2 := 15) (sx_getf (show decode cX12_added 12 = .ok (.getfield 278, 3) by decide +kernel) rfl iX12 (by decide) wd_836) rfl
    (sb_cons (pc2 := 17) (sx_bipush (show decode cX12_added 15 = .ok (.bipush 43, 2) by decide +kernel) (by decide)) rfl
    (sb_cons (pc2 := 20) (sx_icmp_eq (show decode cX12_added 17 = .ok (.if_icmp .eq 12, 3) by decide +kernel) (by decide)) rfl
    (sb_cons (pc2 := 21) (sx_aload_n (show decode cX12_added 20 = .ok (.aload_n 0, 1) by decide +kernel) rfl) rfl
    (sb_cons (pc2 := 24) (sx_getf (show decode cX12_added 21 = .ok (.getfield 278, 3) by decide +kernel) rfl iX12 (by decide) wd_836) rfl
    (sb_cons (pc2 := 26) (sx_bipush (show decode cX12_added 24 = .ok (.bipush 45, 2) by decide +kernel) (by decide)) rfl
    (sb_cons (pc2 := 29) (sx_icmp_ne (show decode cX12_added 26 = .ok (.if_icmp .ne 37, 3) by decide +kernel) (by decide)) rfl sb_nil)))))))))))
  (ms_cons
  (sb_cons (pc2 := 30) (sx_aload_n (show decode cX12_added 29 = .ok (.aload_n 0, 1) by decide +kernel) rfl) rfl
    (sb_cons (pc2 := 33) (sx_getf (show decode cX12_added 30 = .ok (.getfield 278, 3) by decide +kernel) rfl iX12 (by decide) wd_836) rfl
    (sb_cons (pc2 := 35) (sx_bipush (show decode cX12_added 33 = .ok (.bipush 43, 2) by decide +kernel) (by decide)) rfl
    (sb_cons (pc2 := 38) (sx_icmp_ne (show decode cX12_added 35 = .ok (.if_icmp .ne 8, 3) by decide +kernel) (by decide)) rfl
    (sb_cons (pc2 := 40) (sx_bipush (show decode cX12_added 38 = .ok (.bipush 7, 2) by decide +kernel) (by decide)) rfl
    (sb_cons (pc2 := 43) (px_snd_goto (show decode cX12_added 40 = .ok (.goto 5, 3) by decide +kernel) (by decide)) rfl sb_nil))))))
  (ms_cons
  (sb_cons (pc2 := 45) (sx_bipush (show decode cX12_added 43 = .ok (.bipush 8, 2) by decide +kernel) (by decide)) rfl sb_nil)
  (ms_cons
  (sb_cons (pc2 := 46) (sx_istore_n (show decode cX12_added 45 = .ok (.istore_n 1, 1) by decide +kernel) rfl) rfl
    (sb_cons (pc2 := 47) (sx_aload_n (show decode cX12_added 46 = .ok (.aload_n 0, 1) by decide +kernel) rfl) rfl
    (sb_cons (pc2 := 50) (sx_cV (Y' := YX12_next) (q := (RX12, TX12, 69)) rfl (show decode cX12_added 47 = .ok (.invokevirtual 306, 3) by decide +kernel) rfl rfl (px_w4 wd_862 wd_863 wd_864 wd_719) wd_861 ⟨by decide, by decide, by decide +kernel⟩ (by decide)) rfl
    (sb_cons (pc2 := 51) (sx_aload_n (show decode cX12_added 50 = .ok (.aload_n 0, 1) by decide +kernel) rfl) rfl
    (sb_cons (pc2 := 54) (sx_cV (Y' := YX12_term) (q := (RX12, TX12, 69)) rfl (show decode cX12_added 51 = .ok (.invokevirtual 340, 3) by decide +kernel) rfl rfl (px_w4 wd_897 wd_898 wd_899 wd_719) wd_896 ⟨by decide, by decide, by decide +kernel⟩ (by decide)) rfl
    (sb_cons (pc2 := 55) (sx_aload_n (show decode cX12_added 54 = .ok (.aload_n 0, 1) by decide +kernel) rfl) rfl
    (sb_cons (pc2 := 56) (sx_iload_n (show decode cX12_added 55 = .ok (.iload_n 1, 1) by decide +kernel) rfl) rfl
    (sb_cons (pc2 := 57) (sx_iconst (show decode cX12_added 56 = .ok (.iconst 0, 1) by decide +kernel) (by decide)) rfl
    (sb_cons (pc2 := 60) (sx_cV (Y' := YX12_emit) (q := (RX12, TX12, 69)) rfl (show decode cX12_added 57 = .ok (.invokevirtual 328, 3) by decide +kernel) rfl rfl (px_w4 wd_881 wd_882 wd_883 wd_719) wd_880 ⟨by decide, by decide, by decide +kernel⟩ (by decide)) rfl
    (sb_cons (pc2 := 63) (px_snd_goto (show decode cX12_added 60 = .ok (.goto (-56), 3) by decide +kernel) (by decide)) rfl sb_nil))))))))))
  (ms_cons
  (sb_cons (pc2 := 64) (sx_retv (show decode cX12_added 63 = .ok (.return_, 1) by decide +kernel) rfl) rfl sb_nil)
  ms_nil))))))
def kX12_term (X : px_X) : px_B := [(0, [], [px_aload 0, px_cV X 225 1 12], 4),
  (4, [true], [px_aload 0, px_cV X 214 1 12, px_if1 (fun x => decide (¬ x = 0)) 38, px_aload 0, px_getf 12 59, px_push (.int 42), px_if2 (fun x y => decide (¬ x = y)) 38, px_aload 0, px_cV X 211 1 12, px_aload 0, px_cV X 225 1 12, px_aload 0, px_push (.int 9), px_push (.int 0), px_cV X 218 3 12, px_goto 4], 38),
  (38, [false], [px_retv], 39)]
set_option maxRecDepth 100000 in
set_option maxHeartbeats 8000000 in
theorem sX12_term (d : Nat) (X : px_X) : px_MS d X YX12_term (kX12_term X) :=
  (ms_cons
  (sb_cons (pc2 := 1) (sx_aload_n (show decode cX12_term 0 = .ok (.aload_n 0, 1) by decide +kernel) rfl) rfl
    (sb_cons (pc2 := 4) (sx_cV (Y' := YX12_one) (q := (RX12, TX12, 69)) rfl (show decode cX12_term 1 = .ok (.invokevirtual 343, 3) by decide +kernel) rfl rfl (px_w4 wd_901 wd_902 wd_903 wd_719) wd_900 ⟨by decide, by decide, by decide +kernel⟩ (by decide)) rfl sb_nil))
  (ms_cons
  (sb_cons (pc2 := 5) (sx_aload_n (show decode cX12_term 4 = .ok (.aload_n 0, 1) by decide +kernel) rfl) rfl
    (sb_cons (pc2 := 8) (sx_cV (Y' := YX12_isWrong) (q := (RX12, TX12, 69)) rfl (show decode cX12_term 5 = .ok (.invokevirtual 299, 3) by decide +kernel) rfl rfl (px_w4 wd_854 wd_855 wd_856 wd_719) wd_853 ⟨by decide, by decide, by decide +kernel⟩ (by decide)) rfl
    (sb_cons (pc2 := 11) (sx_if_ne (show decode cX12_term 8 = .ok (.ifCond .ne 30, 3) by decide +kernel) (by decide)) rfl
    (sb_cons (pc2 := 12) (sx_aload_n (show decode cX12_term 11 = .ok (.aload_n 0, 1) by decide +kernel) rfl) rfl
    (sb_cons (pc2 := 15) (sx_getf (show decode cX12_term 12 = .ok (.getfield 278, 3) by decide +kernel) rfl iX12 (by decide) wd_836) rfl
    (sb_cons (pc2 := 17) (sx_bipush (show decode cX12_term 15 = .ok (.bipush 42, 2) by decide +kernel) (by decide)) rfl
    (sb_cons (pc2 := 20) (sx_icmp_ne (show decode cX12_term 17 = .ok (.if_icmp .ne 21, 3) by decide +kernel) (by decide)) rfl
    (sb_cons (pc2 := 21) (sx_aload_n (show decode cX12_term 20 = .ok (.aload_n 0, 1) by decide +kernel) rfl) rfl
    (sb_cons (pc2 := 24) (sx_cV (Y' := YX12_next) (q := (RX12, TX12, 69)) rfl (show decode cX12_term 21 = .ok (.invokevirtual 306, 3) by decide +kernel) rfl rfl (px_w4 wd_862 wd_863 wd_864 wd_719) wd_861 ⟨by decide, by decide, by decide +kernel⟩ (by decide)) rfl
    (sb_cons (pc2 := 25) (sx_aload_n (show decode cX12_term 24 = .ok (.aload_n 0, 1) by decide +kernel) rfl) rfl
    (sb_cons (pc2 := 28) (sx_cV (Y' := YX12_one) (q := (RX12, TX12, 69)) rfl (show decode cX12_term 25 = .ok (.invokevirtual 343, 3) by decide +kernel) rfl rfl (px_w4 wd_901 wd_902 wd_903 wd_719) wd_900 ⟨by decide, by decide, by decide +kernel⟩ (by decide)) rfl
    (sb_cons (pc2 := 29) (sx_aload_n (show decode cX12_term 28 = .ok (.aload_n 0, 1) by decide +kernel) rfl) rfl
    (sb_cons (pc2 := 31) (sx_bipush (show decode cX12_term 29 = .ok (.bipush 9, 2) by decide +kernel) (by decide)) rfl
    (sb_cons (pc2 := 32) (sx_iconst (show decode cX12_term 31 = .ok (.iconst 0, 1) by decide +kernel) (by decide)) rfl
    (sb_cons (pc2 := 35) (sx_cV (Y' := YX12_emit) (q := (RX12, TX12, 69)) rfl (show decode cX12_term 32 = .ok (.invokevirtual 328, 3) by decide +kernel) rfl rfl (px_w4 wd_881 wd_882 wd_883 wd_719) wd_880 ⟨by decide, by decide, by decide +kernel⟩ (by decide)) rfl
    (sb_cons (pc2 := 38) (px_snd_goto (show decode cX12_term 35 = .ok (.goto (-31), 3) by decide +kernel) (by decide)) rfl sb_nil))))))))))))))))
  (ms_cons
  (sb_cons (pc2 := 39) (sx_retv (show decode cX12_term 38 = .ok (.return_, 1) by decide +kernel) rfl) rfl sb_nil)
  ms_nil)))
def kX12_one (X : px_X) : px_B := [(0, [], [px_aload 0, px_cV X 214 1 12, px_if1 (fun x => decide (x = 0)) 8, px_retv], 8),
  (8, [true], [px_aload 0, px_getf 12 59, px_push (.int 1), px_if2 (fun x y => decide (x = y)) 24, px_aload 0, px_getf 12 59, px_push (.int 3), px_if2 (fun x y => decide (¬ x = y)) 52], 24),
  (24, [true], [px_aload 0, px_aload 0, px_getf 12 59, px_push (.int 1), px_if2 (fun x y => decide (¬ x = y)) 37, px_push (.int 0), px_goto 38], 37),
  (37, [true], [px_push (.int 1)], 38),
  (38, [true], [px_aload 0, px_getf 12 60, px_cV X 218 3 12, px_aload 0, px_cV X 211 1 12, px_goto 129], 52),
  (52, [true], [px_aload 0, px_getf 12 59, px_push (.int 45), px_if2 (fun x y => decide (¬ x = y)) 89, px_aload 0, px_cV X 217 1 12, px_aload 0, px_cV X 225 1 12, px_aload 0, px_dup, px_getf 12 62, px_push (.int 1), (px_i2 fun x y => x - y), px_puti 12 62, px_aload 0, px_push (.int 10), px_push (.int 0), px_cV X 218 3 12, px_goto 129], 89),
  (89, [true], [px_aload 0, px_getf 12 59, px_push (.int 40), px_if2 (fun x y => decide (¬ x = y)) 125, px_aload 0, px_cV X 217 1 12, px_aload 0, px_cV X 220 1 12, px_aload 0, px_push (.int 41), px_cV X 216 2 12, px_aload 0, px_dup, px_getf 12 62, px_push (.int 1), (px_i2 fun x y => x - y), px_puti 12 62, px_goto 129], 125),
  (125, [true], [px_aload 0, px_cV X 215 1 12], 129),
  (129, [false], [px_retv], 130)]
set_option maxRecDepth 100000 in
set_option maxHeartbeats 8000000 in
theorem sX12_one (d : Nat) (X : px_X) : px_MS d X YX12_one (kX12_one X) :=
  (ms_cons
  (sb_cons (pc2 := 1) (sx_aload_n (show decode cX12_one 0 = .ok (.aload_n 0, 1) by decide +kernel) rfl) rfl
    (sb_cons (pc2 := 4) (sx_cV (Y' := YX12_isWrong) (q := (RX12, TX12, 69)) rfl (show decode cX12_one 1 = .ok (.invokevirtual 299, 3) by decide +kernel) rfl rfl (px_w4 wd_854 wd_855 wd_856 wd_719) wd_853 ⟨by decide, by decide, by decide +kernel⟩ (by decide)) rfl
    (sb_cons (pc2 := 7) (sx_if_eq (show decode cX12_one 4 = .ok (.ifCond .eq 4, 3) by decide +kernel) (by decide)) rfl
    (sb_cons (pc2 := 8) (sx_retv (show decode cX12_one 7 = .ok (.return_, 1) by decide +kernel) rfl) rfl sb_nil))))
  (ms_cons
  (sb_cons (pc2 := 9) (sx_aload_n (show decode cX12_one 8 = .ok (.aload_n 0, 1) by decide +kernel) rfl) rfl
    (sb_cons (pc2 := 12) (sx_getf (show decode cX12_one 9 = .ok (.getfield 278, 3) by decide +kernel) rfl iX12 (by decide) wd_836) rfl
    (sb_cons (pc2 := 13) (sx_iconst (show decode cX12_one 12 = .ok (.iconst 1, 1) by decide +kernel) (by decide)) rfl
    (sb_cons (pc2 := 16) (sx_icmp_eq (show decode cX12_one 13 = .ok (.if_icmp .eq 11, 3) by decide +kernel) (by decide)) rfl
    (sb_cons (pc2 := 17) (sx_aload_n (show decode cX12_one 16 = .ok (.aload_n 0, 1) by decide +kernel) rfl) rfl
    (sb_cons (pc2 := 20) (sx_getf (show decode cX12_one 17 = .ok (.getfield 278, 3) by decide +kernel) rfl iX12 (by decide) wd_836) rfl
    (sb_cons (pc2 := 21) (sx_iconst (show decode cX12_one 20 = .ok (.iconst 3, 1) by decide +kernel) (by decide)) rfl
    (sb_cons (pc2 := 24) (sx_icmp_ne (show decode cX12_one 21 = .ok (.if_icmp .ne 31, 3) by decide +kernel) (by decide)) rfl sb_nil))))))))
  (ms_cons
  (sb_cons (pc2 := 25) (sx_aload_n (show decode cX12_one 24 = .ok (.aload_n 0, 1) by decide +kernel) rfl) rfl
    (sb_cons (pc2 := 26) (sx_aload_n (show decode cX12_one 25 = .ok (.aload_n 0, 1) by decide +kernel) rfl) rfl
    (sb_cons (pc2 := 29) (sx_getf (show decode cX12_one 26 = .ok (.getfield 278, 3) by decide +kernel) rfl iX12 (by decide) wd_836) rfl
    (sb_cons (pc2 := 30) (sx_iconst (show decode cX12_one 29 = .ok (.iconst 1, 1) by decide +kernel) (by decide)) rfl
    (sb_cons (pc2 := 33) (sx_icmp_ne (show decode cX12_one 30 = .ok (.if_icmp .ne 7, 3) by decide +kernel) (by decide)) rfl
    (sb_cons (pc2 := 34) (sx_iconst (show decode cX12_one 33 = .ok (.iconst 0, 1) by decide +kernel) (by decide)) rfl
    (sb_cons (pc2 := 37) (px_snd_goto (show decode cX12_one 34 = .ok (.goto 4, 3) by decide +kernel) (by decide)) rfl sb_nil)))))))
  (ms_cons
  (sb_cons (pc2 := 38) (sx_iconst (show decode cX12_one 37 = .ok (.iconst 1, 1) by decide +kernel) (by decide)) rfl sb_nil)
  (ms_cons
  (sb_cons (pc2 := 39) (sx_aload_n (show decode cX12_one 38 = .ok (.aload_n 0, 1) by decide +kernel) rfl) rfl
    (sb_cons (pc2 := 42) (sx_getf (show decode cX12_one 39 = .ok (.getfield 293, 3) by decide +kernel) rfl iX12 (by decide) wd_851) rfl
    (sb_cons (pc2 := 45) (sx_cV (Y' := YX12_emit) (q := (RX12, TX12, 69)) rfl (show decode cX12_one 42 = .ok (.invokevirtual 328, 3) by decide +kernel) rfl rfl (px_w4 wd_881 wd_882 wd_883 wd_719) wd_880 ⟨by decide, by decide, by decide +kernel⟩ (by decide)) rfl
    (sb_cons (pc2 := 46) (sx_aload_n (show decode cX12_one 45 = .ok (.aload_n 0, 1) by decide +kernel) rfl) rfl
    (sb_cons (pc2 := 49) (sx_cV (Y' := YX12_next) (q := (RX12, TX12, 69)) rfl (show decode cX12_one 46 = .ok (.invokevirtual 306, 3) by decide +kernel) rfl rfl (px_w4 wd_862 wd_863 wd_864 wd_719) wd_861 ⟨by decide, by decide, by decide +kernel⟩ (by decide)) rfl
    (sb_cons (pc2 := 52) (px_snd_goto (show decode cX12_one 49 = .ok (.goto 80, 3) by decide +kernel) (by decide)) rfl sb_nil))))))
  (ms_cons
  (sb_cons (pc2 := 53) (sx_aload_n (show decode cX12_one 52 = .ok (.aload_n 0, 1) by decide +kernel) rfl) rfl
    (sb_cons (pc2 := 56) (sx_getf (show decode cX12_one 53 = .ok (.getfield 278, 3) by decide +kernel) rfl iX12 (by decide) wd_836) rfl
    (sb_cons (pc2 := 58) (sx_bipush (show decode cX12_one 56 = .ok (.bipush 45, 2) by decide +kernel) (by decide)) rfl
    (sb_cons (pc2 := 61) (sx_icmp_ne (show decode cX12_one 58 = .ok (.if_icmp .ne 31, 3) by decide +kernel) (by decide)) rfl
    (sb_cons (pc2 := 62) (sx_aload_n (show decode cX12_one 61 = .ok (.aload_n 0, 1) by decide +kernel) rfl) rfl
    (sb_cons (pc2 := 65) (sx_cV (Y' := YX12_opens) (q := (RX12, TX12, 69)) rfl (show decode cX12_one 62 = .ok (.invokevirtual 334, 3) by decide +kernel) rfl rfl (px_w4 wd_889 wd_890 wd_891 wd_719) wd_888 ⟨by decide, by decide, by decide +kernel⟩ (by decide)) rfl
    (sb_cons (pc2 := 66) (sx_aload_n (show decode cX12_one 65 = .ok (.aload_n 0, 1) by decide +kernel) rfl) rfl
    (sb_cons (pc2 := 69) (sx_cV (Y' := YX12_one) (q := (RX12, TX12, 69)) rfl (show decode cX12_one 66 = .ok (.invokevirtual 343, 3) by decide +kernel) rfl rfl (px_w4 wd_901 wd_902 wd_903 wd_719) wd_900 ⟨by decide, by decide, by decide +kernel⟩ (by decide)) rfl
    (sb_cons (pc2 := 70) (sx_aload_n (show decode cX12_one 69 = .ok (.aload_n 0, 1) by decide +kernel) rfl) rfl
    (sb_cons (pc2 := 71) (sx_dup (show decode cX12_one 70 = .ok (.dup, 1) by decide +kernel)) rfl
    (sb_cons (pc2 := 74) (sx_getf (show decode cX12_one 71 = .ok (.getfield 309, 3) by decide +kernel) rfl iX12 (by decide) wd_865) rfl
    (sb_cons (pc2 := 75) (sx_iconst (show decode cX12_one 74 = .ok (.iconst 1, 1) by decide +kernel) (by decide)) rfl
    (sb_cons (pc2 := 76) (sx_isub (show decode cX12_one 75 = .ok (.isub, 1) by decide +kernel)) rfl
    (sb_cons (pc2 := 79) (sx_puti (show decode cX12_one 76 = .ok (.putfield 309, 3) by decide +kernel) rfl iX12 tyX12_ok nmX12 (by decide) wd_865 rfl (Or.inl rfl)) rfl
    (sb_cons (pc2 := 80) (sx_aload_n (show decode cX12_one 79 = .ok (.aload_n 0, 1) by decide +kernel) rfl) rfl
    (sb_cons (pc2 := 82) (sx_bipush (show decode cX12_one 80 = .ok (.bipush 10, 2) by decide +kernel) (by decide)) rfl
    (sb_cons (pc2 := 83) (sx_iconst (show decode cX12_one 82 = .ok (.iconst 0, 1) by decide +kernel) (by decide)) rfl
    (sb_cons (pc2 := 86) (sx_cV (Y' := YX12_emit) (q := (RX12, TX12, 69)) rfl (show decode cX12_one 83 = .ok (.invokevirtual 328, 3) by decide +kernel) rfl rfl (px_w4 wd_881 wd_882 wd_883 wd_719) wd_880 ⟨by decide, by decide, by decide +kernel⟩ (by decide)) rfl
    (sb_cons (pc2 := 89) (px_snd_goto (show decode cX12_one 86 = .ok (.goto 43, 3) by decide +kernel) (by decide)) rfl sb_nil)))))))))))))))))))
  (ms_cons
  (sb_cons (pc2 := 90) (sx_aload_n (show decode cX12_one 89 = .ok (.aload_n 0, 1) by decide +kernel) rfl) rfl
    (sb_cons (pc2 := 93) (sx_getf (show decode cX12_one 90 = .ok (.getfield 278, 3) by decide +kernel) rfl iX12 (by decide) wd_836) rfl
    (sb_cons (pc2 := 95) (sx_bipush (show decode cX12_one 93 = .ok (.bipush 40, 2) by decide +kernel) (by decide)) rfl
    (sb_cons (pc2 := 98) (sx_icmp_ne (show decode cX12_one 95 = .ok (.if_icmp .ne 30, 3) by decide +kernel) (by decide)) rfl
    (sb_cons (pc2 := 99) (sx_aload_n (show decode cX12_one 98 = .ok (.aload_n 0, 1) by decide +kernel) rfl) rfl
    (sb_cons (pc2 := 102) (sx_cV (Y' := YX12_opens) (q := (RX12, TX12, 69)) rfl (show decode cX12_one 99 = .ok (.invokevirtual 334, 3) by decide +kernel) rfl rfl (px_w4 wd_889 wd_890 wd_891 wd_719) wd_888 ⟨by decide, by decide, by decide +kernel⟩ (by decide)) rfl
    (sb_cons (pc2 := 103) (sx_aload_n (show decode cX12_one 102 = .ok (.aload_n 0, 1) by decide +kernel) rfl) rfl
    (sb_cons (pc2 := 106) (sx_cV (Y' := YX12_either) (q := (RX12, TX12, 69)) rfl (show decode cX12_one 103 = .ok (.invokevirtual 322, 3) by decide +kernel) rfl rfl (px_w4 wd_873 wd_874 wd_875 wd_719) wd_872 ⟨by decide, by decide, by decide +kernel⟩ (by decide)) rfl
    (sb_cons (pc2 := 107) (sx_aload_n (show decode cX12_one 106 = .ok (.aload_n 0, 1) by decide +kernel) rfl) rfl
    (sb_cons (pc2 := 109) (sx_bipush (show decode cX12_one 107 = .ok (.bipush 41, 2) by decide +kernel) (by decide)) rfl
    (sb_cons (pc2 := 112) (sx_cV (Y' := YX12_need) (q := (RX12, TX12, 69)) rfl (show decode cX12_one 109 = .ok (.invokevirtual 318, 3) by decide +kernel) rfl rfl (px_w4 wd_869 wd_870 wd_871 wd_719) wd_868 ⟨by decide, by decide, by decide +kernel⟩ (by decide)) rfl
    (sb_cons (pc2 := 113) (sx_aload_n (show decode cX12_one 112 = .ok (.aload_n 0, 1) by decide +kernel) rfl) rfl
    (sb_cons (pc2 := 114) (sx_dup (show decode cX12_one 113 = .ok (.dup, 1) by decide +kernel)) rfl
    (sb_cons (pc2 := 117) (sx_getf (show decode cX12_one 114 = .ok (.getfield 309, 3) by decide +kernel) rfl iX12 (by decide) wd_865) rfl
    (sb_cons (pc2 := 118) (sx_iconst (show decode cX12_one 117 = .ok (.iconst 1, 1) by decide +kernel) (by decide)) rfl
    (sb_cons (pc2 := 119) (sx_isub (show decode cX12_one 118 = .ok (.isub, 1) by decide +kernel)) rfl
    (sb_cons (pc2 := 122) (sx_puti (show decode cX12_one 119 = .ok (.putfield 309, 3) by decide +kernel) rfl iX12 tyX12_ok nmX12 (by decide) wd_865 rfl (Or.inl rfl)) rfl
    (sb_cons (pc2 := 125) (px_snd_goto (show decode cX12_one 122 = .ok (.goto 7, 3) by decide +kernel) (by decide)) rfl sb_nil))))))))))))))))))
  (ms_cons
  (sb_cons (pc2 := 126) (sx_aload_n (show decode cX12_one 125 = .ok (.aload_n 0, 1) by decide +kernel) rfl) rfl
    (sb_cons (pc2 := 129) (sx_cV (Y' := YX12_cannot) (q := (RX12, TX12, 69)) rfl (show decode cX12_one 126 = .ok (.invokevirtual 303, 3) by decide +kernel) rfl rfl (px_w4 wd_858 wd_859 wd_860 wd_719) wd_857 ⟨by decide, by decide, by decide +kernel⟩ (by decide)) rfl sb_nil))
  (ms_cons
  (sb_cons (pc2 := 130) (sx_retv (show decode cX12_one 129 = .ok (.return_, 1) by decide +kernel) rfl) rfl sb_nil)
  ms_nil)))))))))
def kX12_feed (X : px_X) : px_B := [(0, [], [px_iload 1, px_push (.int 1), px_push (.int 8), px_cS X 165 3, px_if1 (fun x => decide (¬ x = 0)) 13, px_push (.int (-2)), px_reti], 13),
  (13, [true, true, true, false, false], [px_aload 0, px_getf 12 37, px_iload 1, (px_i2 fun x y => x + y), px_push (.int 160), px_if2 (fun x y => decide (x ≤ y)) 28, px_push (.int (-4)), px_reti], 28),
  (28, [true, true, true, false, false], [px_push (.int 0), px_istore 4], 31),
  (31, [true, true, true, false, true], [px_iload 4, px_iload 1, px_if2 (fun x y => decide (y ≤ x)) 74, px_aload 0, px_getf 12 36, px_aload 0, px_getf 12 37, px_lload 2, px_push (.int 8), px_iload 4, (px_i2 fun x y => x * y), (px_lsh fun x y => x >>> (y.toInt64 &&& 63)), px_push (.long 255), (px_l2 fun x y => x &&& y), px_l2i, px_iast 0, px_aload 0, px_dup, px_getf 12 37, px_push (.int 1), (px_i2 fun x y => x + y), px_puti 12 37, px_iinc 4 1, px_goto 31], 74),
  (74, [true, false, false, false, false], [px_aload 0, px_getf 12 37, px_reti], 79)]
set_option maxRecDepth 100000 in
set_option maxHeartbeats 8000000 in
theorem sX12_feed (d : Nat) (X : px_X) : px_MS d X YX12_feed (kX12_feed X) :=
  (ms_cons
  (sb_cons (pc2 := 1) (sx_iload_n (show decode cX12_feed 0 = .ok (.iload_n 1, 1) by decide +kernel) rfl) rfl
    (sb_cons (pc2 := 2) (sx_iconst (show decode cX12_feed 1 = .ok (.iconst 1, 1) by decide +kernel) (by decide)) rfl
    (sb_cons (pc2 := 4) (sx_bipush (show decode cX12_feed 2 = .ok (.bipush 8, 2) by decide +kernel) (by decide)) rfl
    (sb_cons (pc2 := 7) (sx_cS (Y' := YX12_in) rfl (show decode cX12_feed 4 = .ok (.invokestatic 147, 3) by decide +kernel) rfl (px_w3 wd_717 wd_718 wd_719) wd_716 ⟨by decide, by decide, by decide +kernel⟩ (by decide)) rfl
    (sb_cons (pc2 := 10) (sx_if_ne (show decode cX12_feed 7 = .ok (.ifCond .ne 6, 3) by decide +kernel) (by decide)) rfl
    (sb_cons (pc2 := 12) (sx_bipush (show decode cX12_feed 10 = .ok (.bipush (-2), 2) by decide +kernel) (by decide)) rfl
    (sb_cons (pc2 := 13) (sx_reti (show decode cX12_feed 12 = .ok (.ireturn, 1) by decide +kernel) rfl) rfl sb_nil)))))))
  (ms_cons
  (sb_cons (pc2 := 14) (sx_aload_n (show decode cX12_feed 13 = .ok (.aload_n 0, 1) by decide +kernel) rfl) rfl
    (sb_cons (pc2 := 17) (sx_getf (show decode cX12_feed 14 = .ok (.getfield 346, 3) by decide +kernel) rfl iX12 (by decide) wd_904) rfl
    (sb_cons (pc2 := 18) (sx_iload_n (show decode cX12_feed 17 = .ok (.iload_n 1, 1) by decide +kernel) rfl) rfl
    (sb_cons (pc2 := 19) (sx_iadd (show decode cX12_feed 18 = .ok (.iadd, 1) by decide +kernel)) rfl
    (sb_cons (pc2 := 22) (sx_sipush (show decode cX12_feed 19 = .ok (.sipush 160, 3) by decide +kernel) (by decide)) rfl
    (sb_cons (pc2 := 25) (sx_icmp_le (show decode cX12_feed 22 = .ok (.if_icmp .le 6, 3) by decide +kernel) (by decide)) rfl
    (sb_cons (pc2 := 27) (sx_bipush (show decode cX12_feed 25 = .ok (.bipush (-4), 2) by decide +kernel) (by decide)) rfl
    (sb_cons (pc2 := 28) (sx_reti (show decode cX12_feed 27 = .ok (.ireturn, 1) by decide +kernel) rfl) rfl sb_nil))))))))
  (ms_cons
  (sb_cons (pc2 := 29) (sx_iconst (show decode cX12_feed 28 = .ok (.iconst 0, 1) by decide +kernel) (by decide)) rfl
    (sb_cons (pc2 := 31) (sx_istore (show decode cX12_feed 29 = .ok (.istore 4, 2) by decide +kernel)) rfl sb_nil))
  (ms_cons
  (sb_cons (pc2 := 33) (sx_iload (show decode cX12_feed 31 = .ok (.iload 4, 2) by decide +kernel)) rfl
    (sb_cons (pc2 := 34) (sx_iload_n (show decode cX12_feed 33 = .ok (.iload_n 1, 1) by decide +kernel) rfl) rfl
    (sb_cons (pc2 := 37) (sx_icmp_ge (show decode cX12_feed 34 = .ok (.if_icmp .ge 40, 3) by decide +kernel) (by decide)) rfl
    (sb_cons (pc2 := 38) (sx_aload_n (show decode cX12_feed 37 = .ok (.aload_n 0, 1) by decide +kernel) rfl) rfl
    (sb_cons (pc2 := 41) (sx_getf (show decode cX12_feed 38 = .ok (.getfield 96, 3) by decide +kernel) rfl iX12 (by decide) wd_699) rfl
    (sb_cons (pc2 := 42) (sx_aload_n (show decode cX12_feed 41 = .ok (.aload_n 0, 1) by decide +kernel) rfl) rfl
    (sb_cons (pc2 := 45) (sx_getf (show decode cX12_feed 42 = .ok (.getfield 346, 3) by decide +kernel) rfl iX12 (by decide) wd_904) rfl
    (sb_cons (pc2 := 46) (sx_lload_n (show decode cX12_feed 45 = .ok (.lload_n 2, 1) by decide +kernel) rfl) rfl
    (sb_cons (pc2 := 48) (sx_bipush (show decode cX12_feed 46 = .ok (.bipush 8, 2) by decide +kernel) (by decide)) rfl
    (sb_cons (pc2 := 50) (sx_iload (show decode cX12_feed 48 = .ok (.iload 4, 2) by decide +kernel)) rfl
    (sb_cons (pc2 := 51) (sx_imul (show decode cX12_feed 50 = .ok (.imul, 1) by decide +kernel)) rfl
    (sb_cons (pc2 := 52) (sx_lshr (show decode cX12_feed 51 = .ok (.lshr, 1) by decide +kernel)) rfl
    (sb_cons (pc2 := 55) (sx_ldc2 (show decode cX12_feed 52 = .ok (.ldc2_w 349, 3) by decide +kernel) wd_905) rfl
    (sb_cons (pc2 := 56) (sx_land (show decode cX12_feed 55 = .ok (.land, 1) by decide +kernel)) rfl
    (sb_cons (pc2 := 57) (sx_l2i (show decode cX12_feed 56 = .ok (.l2i, 1) by decide +kernel)) rfl
    (sb_cons (pc2 := 58) (sx_iast (show decode cX12_feed 57 = .ok (.iastore, 1) by decide +kernel)) rfl
    (sb_cons (pc2 := 59) (sx_aload_n (show decode cX12_feed 58 = .ok (.aload_n 0, 1) by decide +kernel) rfl) rfl
    (sb_cons (pc2 := 60) (sx_dup (show decode cX12_feed 59 = .ok (.dup, 1) by decide +kernel)) rfl
    (sb_cons (pc2 := 63) (sx_getf (show decode cX12_feed 60 = .ok (.getfield 346, 3) by decide +kernel) rfl iX12 (by decide) wd_904) rfl
    (sb_cons (pc2 := 64) (sx_iconst (show decode cX12_feed 63 = .ok (.iconst 1, 1) by decide +kernel) (by decide)) rfl
    (sb_cons (pc2 := 65) (sx_iadd (show decode cX12_feed 64 = .ok (.iadd, 1) by decide +kernel)) rfl
    (sb_cons (pc2 := 68) (sx_puti (show decode cX12_feed 65 = .ok (.putfield 346, 3) by decide +kernel) rfl iX12 tyX12_ok nmX12 (by decide) wd_904 rfl (Or.inl rfl)) rfl
    (sb_cons (pc2 := 71) (sx_iinc (show decode cX12_feed 68 = .ok (.iinc 4 1, 3) by decide +kernel) (by decide)) rfl
    (sb_cons (pc2 := 74) (px_snd_goto (show decode cX12_feed 71 = .ok (.goto (-40), 3) by decide +kernel) (by decide)) rfl sb_nil))))))))))))))))))))))))
  (ms_cons
  (sb_cons (pc2 := 75) (sx_aload_n (show decode cX12_feed 74 = .ok (.aload_n 0, 1) by decide +kernel) rfl) rfl
    (sb_cons (pc2 := 78) (sx_getf (show decode cX12_feed 75 = .ok (.getfield 346, 3) by decide +kernel) rfl iX12 (by decide) wd_904) rfl
    (sb_cons (pc2 := 79) (sx_reti (show decode cX12_feed 78 = .ok (.ireturn, 1) by decide +kernel) rfl) rfl sb_nil)))
  ms_nil)))))
def kX12_rule (X : px_X) : px_B := [(0, [], [px_aload 0, px_aload 0, px_getf 12 37, px_puti 12 55, px_aload 0, px_push (.int 0), px_puti 12 37, px_aload 0, px_cV X 219 1 12, px_istore 1, px_aload 0, px_cV X 214 1 12, px_if1 (fun x => decide (x = 0)) 33, px_push (.int (-100)), px_aload 0, px_getf 12 61, (px_i2 fun x y => x - y), px_reti], 33),
  (33, [true, true, false], [px_aload 0, px_iload 1, px_puti 12 38, px_push (.int 0), px_istore 2], 40),
  (40, [true, true, true], [px_iload 2, px_aload 0, px_getf 12 63, px_if2 (fun x y => decide (y ≤ x)) 86, px_aload 0, px_getf 12 39, px_iload 2, px_aload 0, px_getf 12 39, px_push (.int 160), px_iload 2, (px_i2 fun x y => x + y), px_iald 0, px_iast 0, px_aload 0, px_getf 12 40, px_iload 2, px_aload 0, px_getf 12 40, px_push (.int 160), px_iload 2, (px_i2 fun x y => x + y), px_iald 0, px_iast 0, px_iinc 2 1, px_goto 40], 86),
  (86, [true, true, false], [px_push (.int 0), px_istore 2], 88),
  (88, [true, true, true], [px_iload 2, px_iload 1, px_if2 (fun x y => decide (y < x)) 114, px_aload 0, px_getf 12 41, px_iload 2, px_aload 0, px_getf 12 41, px_push (.int 8), px_iload 2, (px_i2 fun x y => x + y), px_iald 0, px_iast 0, px_iinc 2 1, px_goto 88], 114),
  (114, [false, true, false], [px_iload 1, px_reti], 116)]
set_option maxRecDepth 100000 in
set_option maxHeartbeats 8000000 in
theorem sX12_rule (d : Nat) (X : px_X) : px_MS d X YX12_rule (kX12_rule X) :=
  (ms_cons
  (sb_cons (pc2 := 1) (sx_aload_n (show decode cX12_rule 0 = .ok (.aload_n 0, 1) by decide +kernel) rfl) rfl
    (sb_cons (pc2 := 2) (sx_aload_n (show decode cX12_rule 1 = .ok (.aload_n 0, 1) by decide +kernel) rfl) rfl
    (sb_cons (pc2 := 5) (sx_getf (show decode cX12_rule 2 = .ok (.getfield 346, 3) by decide +kernel) rfl iX12 (by decide) wd_904) rfl
    (sb_cons (pc2 := 8) (sx_puti (show decode cX12_rule 5 = .ok (.putfield 266, 3) by decide +kernel) rfl iX12 tyX12_ok nmX12 (by decide) wd_829 rfl (Or.inl rfl)) rfl
    (sb_cons (pc2 := 9) (sx_aload_n (show decode cX12_rule 8 = .ok (.aload_n 0, 1) by decide +kernel) rfl) rfl
    (sb_cons (pc2 := 10) (sx_iconst (show decode cX12_rule 9 = .ok (.iconst 0, 1) by decide +kernel) (by decide)) rfl
    (sb_cons (pc2 := 13) (sx_puti (show decode cX12_rule 10 = .ok (.putfield 346, 3) by decide +kernel) rfl iX12 tyX12_ok nmX12 (by decide) wd_904 rfl (Or.inl rfl)) rfl
    (sb_cons (pc2 := 14) (sx_aload_n (show decode cX12_rule 13 = .ok (.aload_n 0, 1) by decide +kernel) rfl) rfl
    (sb_cons (pc2 := 17) (sx_cV (Y' := YX12_reads) (q := (RX12, TX12, 69)) rfl (show decode cX12_rule 14 = .ok (.invokevirtual 351, 3) by decide +kernel) rfl rfl (px_w4 wd_907 wd_908 wd_909 wd_719) wd_906 ⟨by decide, by decide, by decide +kernel⟩ (by decide)) rfl
    (sb_cons (pc2 := 18) (sx_istore_n (show decode cX12_rule 17 = .ok (.istore_n 1, 1) by decide +kernel) rfl) rfl
    (sb_cons (pc2 := 19) (sx_aload_n (show decode cX12_rule 18 = .ok (.aload_n 0, 1) by decide +kernel) rfl) rfl
    (sb_cons (pc2 := 22) (sx_cV (Y' := YX12_isWrong) (q := (RX12, TX12, 69)) rfl (show decode cX12_rule 19 = .ok (.invokevirtual 299, 3) by decide +kernel) rfl rfl (px_w4 wd_854 wd_855 wd_856 wd_719) wd_853 ⟨by decide, by decide, by decide +kernel⟩ (by decide)) rfl
    (sb_cons (pc2 := 25) (sx_if_eq (show decode cX12_rule 22 = .ok (.ifCond .eq 11, 3) by decide +kernel) (by decide)) rfl
    (sb_cons (pc2 := 27) (sx_bipush (show decode cX12_rule 25 = .ok (.bipush (-100), 2) by decide +kernel) (by decide)) rfl
    (sb_cons (pc2 := 28) (sx_aload_n (show decode cX12_rule 27 = .ok (.aload_n 0, 1) by decide +kernel) rfl) rfl
    (sb_cons (pc2 := 31) (sx_getf (show decode cX12_rule 28 = .ok (.getfield 296, 3) by decide +kernel) rfl iX12 (by decide) wd_852) rfl
    (sb_cons (pc2 := 32) (sx_isub (show decode cX12_rule 31 = .ok (.isub, 1) by decide +kernel)) rfl
    (sb_cons (pc2 := 33) (sx_reti (show decode cX12_rule 32 = .ok (.ireturn, 1) by decide +kernel) rfl) rfl sb_nil))))))))))))))))))
  (ms_cons
  (sb_cons (pc2 := 34) (sx_aload_n (show decode cX12_rule 33 = .ok (.aload_n 0, 1) by decide +kernel) rfl) rfl
    (sb_cons (pc2 := 35) (sx_iload_n (show decode cX12_rule 34 = .ok (.iload_n 1, 1) by decide +kernel) rfl) rfl
    (sb_cons (pc2 := 38) (sx_puti (show decode cX12_rule 35 = .ok (.putfield 216, 3) by decide +kernel) rfl iX12 tyX12_ok nmX12 (by decide) wd_780 rfl (Or.inl rfl)) rfl
    (sb_cons (pc2 := 39) (sx_iconst (show decode cX12_rule 38 = .ok (.iconst 0, 1) by decide +kernel) (by decide)) rfl
    (sb_cons (pc2 := 40) (sx_istore_n (show decode cX12_rule 39 = .ok (.istore_n 2, 1) by decide +kernel) rfl) rfl sb_nil)))))
  (ms_cons
  (sb_cons (pc2 := 41) (sx_iload_n (show decode cX12_rule 40 = .ok (.iload_n 2, 1) by decide +kernel) rfl) rfl
    (sb_cons (pc2 := 42) (sx_aload_n (show decode cX12_rule 41 = .ok (.aload_n 0, 1) by decide +kernel) rfl) rfl
    (sb_cons (pc2 := 45) (sx_getf (show decode cX12_rule 42 = .ok (.getfield 315, 3) by decide +kernel) rfl iX12 (by decide) wd_867) rfl
    (sb_cons (pc2 := 48) (sx_icmp_ge (show decode cX12_rule 45 = .ok (.if_icmp .ge 41, 3) by decide +kernel) (by decide)) rfl
    (sb_cons (pc2 := 49) (sx_aload_n (show decode cX12_rule 48 = .ok (.aload_n 0, 1) by decide +kernel) rfl) rfl
    (sb_cons (pc2 := 52) (sx_getf (show decode cX12_rule 49 = .ok (.getfield 99, 3) by decide +kernel) rfl iX12 (by decide) wd_700) rfl
    (sb_cons (pc2 := 53) (sx_iload_n (show decode cX12_rule 52 = .ok (.iload_n 2, 1) by decide +kernel) rfl) rfl
    (sb_cons (pc2 := 54) (sx_aload_n (show decode cX12_rule 53 = .ok (.aload_n 0, 1) by decide +kernel) rfl) rfl
    (sb_cons (pc2 := 57) (sx_getf (show decode cX12_rule 54 = .ok (.getfield 99, 3) by decide +kernel) rfl iX12 (by decide) wd_700) rfl
    (sb_cons (pc2 := 60) (sx_sipush (show decode cX12_rule 57 = .ok (.sipush 160, 3) by decide +kernel) (by decide)) rfl
    (sb_cons (pc2 := 61) (sx_iload_n (show decode cX12_rule 60 = .ok (.iload_n 2, 1) by decide +kernel) rfl) rfl
    (sb_cons (pc2 := 62) (sx_iadd (show decode cX12_rule 61 = .ok (.iadd, 1) by decide +kernel)) rfl
    (sb_cons (pc2 := 63) (sx_iald (show decode cX12_rule 62 = .ok (.iaload, 1) by decide +kernel)) rfl
    (sb_cons (pc2 := 64) (sx_iast (show decode cX12_rule 63 = .ok (.iastore, 1) by decide +kernel)) rfl
    (sb_cons (pc2 := 65) (sx_aload_n (show decode cX12_rule 64 = .ok (.aload_n 0, 1) by decide +kernel) rfl) rfl
    (sb_cons (pc2 := 68) (sx_getf (show decode cX12_rule 65 = .ok (.getfield 102, 3) by decide +kernel) rfl iX12 (by decide) wd_701) rfl
    (sb_cons (pc2 := 69) (sx_iload_n (show decode cX12_rule 68 = .ok (.iload_n 2, 1) by decide +kernel) rfl) rfl
    (sb_cons (pc2 := 70) (sx_aload_n (show decode cX12_rule 69 = .ok (.aload_n 0, 1) by decide +kernel) rfl) rfl
    (sb_cons (pc2 := 73) (sx_getf (show decode cX12_rule 70 = .ok (.getfield 102, 3) by decide +kernel) rfl iX12 (by decide) wd_701) rfl
    (sb_cons (pc2 := 76) (sx_sipush (show decode cX12_rule 73 = .ok (.sipush 160, 3) by decide +kernel) (by decide)) rfl
    (sb_cons (pc2 := 77) (sx_iload_n (show decode cX12_rule 76 = .ok (.iload_n 2, 1) by decide +kernel) rfl) rfl
    (sb_cons (pc2 := 78) (sx_iadd (show decode cX12_rule 77 = .ok (.iadd, 1) by decide +kernel)) rfl
    (sb_cons (pc2 := 79) (sx_iald (show decode cX12_rule 78 = .ok (.iaload, 1) by decide +kernel)) rfl
    (sb_cons (pc2 := 80) (sx_iast (show decode cX12_rule 79 = .ok (.iastore, 1) by decide +kernel)) rfl
    (sb_cons (pc2 := 83) (sx_iinc (show decode cX12_rule 80 = .ok (.iinc 2 1, 3) by decide +kernel) (by decide)) rfl
    (sb_cons (pc2 := 86) (px_snd_goto (show decode cX12_rule 83 = .ok (.goto (-43), 3) by decide +kernel) (by decide)) rfl sb_nil))))))))))))))))))))))))))
  (ms_cons
  (sb_cons (pc2 := 87) (sx_iconst (show decode cX12_rule 86 = .ok (.iconst 0, 1) by decide +kernel) (by decide)) rfl
    (sb_cons (pc2 := 88) (sx_istore_n (show decode cX12_rule 87 = .ok (.istore_n 2, 1) by decide +kernel) rfl) rfl sb_nil))
  (ms_cons
  (sb_cons (pc2 := 89) (sx_iload_n (show decode cX12_rule 88 = .ok (.iload_n 2, 1) by decide +kernel) rfl) rfl
    (sb_cons (pc2 := 90) (sx_iload_n (show decode cX12_rule 89 = .ok (.iload_n 1, 1) by decide +kernel) rfl) rfl
    (sb_cons (pc2 := 93) (sx_icmp_gt (show decode cX12_rule 90 = .ok (.if_icmp .gt 24, 3) by decide +kernel) (by decide)) rfl
    (sb_cons (pc2 := 94) (sx_aload_n (show decode cX12_rule 93 = .ok (.aload_n 0, 1) by decide +kernel) rfl) rfl
    (sb_cons (pc2 := 97) (sx_getf (show decode cX12_rule 94 = .ok (.getfield 105, 3) by decide +kernel) rfl iX12 (by decide) wd_702) rfl
    (sb_cons (pc2 := 98) (sx_iload_n (show decode cX12_rule 97 = .ok (.iload_n 2, 1) by decide +kernel) rfl) rfl
    (sb_cons (pc2 := 99) (sx_aload_n (show decode cX12_rule 98 = .ok (.aload_n 0, 1) by decide +kernel) rfl) rfl
    (sb_cons (pc2 := 102) (sx_getf (show decode cX12_rule 99 = .ok (.getfield 105, 3) by decide +kernel) rfl iX12 (by decide) wd_702) rfl
    (sb_cons (pc2 := 104) (sx_bipush (show decode cX12_rule 102 = .ok (.bipush 8, 2) by decide +kernel) (by decide)) rfl
    (sb_cons (pc2 := 105) (sx_iload_n (show decode cX12_rule 104 = .ok (.iload_n 2, 1) by decide +kernel) rfl) rfl
    (sb_cons (pc2 := 106) (sx_iadd (show decode cX12_rule 105 = .ok (.iadd, 1) by decide +kernel)) rfl
    (sb_cons (pc2 := 107) (sx_iald (show decode cX12_rule 106 = .ok (.iaload, 1) by decide +kernel)) rfl
    (sb_cons (pc2 := 108) (sx_iast (show decode cX12_rule 107 = .ok (.iastore, 1) by decide +kernel)) rfl
    (sb_cons (pc2 := 111) (sx_iinc (show decode cX12_rule 108 = .ok (.iinc 2 1, 3) by decide +kernel) (by decide)) rfl
    (sb_cons (pc2 := 114) (px_snd_goto (show decode cX12_rule 111 = .ok (.goto (-23), 3) by decide +kernel) (by decide)) rfl sb_nil)))))))))))))))
  (ms_cons
  (sb_cons (pc2 := 115) (sx_iload_n (show decode cX12_rule 114 = .ok (.iload_n 1, 1) by decide +kernel) rfl) rfl
    (sb_cons (pc2 := 116) (sx_reti (show decode cX12_rule 115 = .ok (.ireturn, 1) by decide +kernel) rfl) rfl sb_nil))
  ms_nil))))))
def kX12_two (X : px_X) : px_B := [(0, [], [px_iload 0, px_sw [(2, 44), (3, 58), (4, 102), (5, 72), (6, 83), (7, 94), (8, 98)] 102], 44),
  (44, [false, true, true], [px_iload 1, px_if1 (fun x => decide (¬ x = 0)) 52, px_iload 2, px_if1 (fun x => decide (x = 0)) 56], 52),
  (52, [false, false, false], [px_push (.int 1), px_goto 57], 56),
  (56, [false, false, false], [px_push (.int 0)], 57),
  (57, [false, false, false], [px_reti], 58),
  (58, [false, true, true], [px_iload 1, px_if1 (fun x => decide (x = 0)) 70, px_iload 2, px_if1 (fun x => decide (x = 0)) 70, px_push (.int 1), px_goto 71], 70),
  (70, [false, false, false], [px_push (.int 0)], 71),
  (71, [false, false, false], [px_reti], 72),
  (72, [false, true, true], [px_iload 1, px_iload 2, px_if2 (fun x y => decide (y ≤ x)) 81, px_push (.int 1), px_goto 82], 81),
  (81, [false, false, false], [px_push (.int 0)], 82),
  (82, [false, false, false], [px_reti], 83),
  (83, [false, true, true], [px_iload 1, px_iload 2, px_if2 (fun x y => decide (¬ x = y)) 92, px_push (.int 1), px_goto 93], 92),
  (92, [false, false, false], [px_push (.int 0)], 93),
  (93, [false, false, false], [px_reti], 94),
  (94, [false, true, true], [px_iload 1, px_iload 2, (px_i2 fun x y => x + y), px_reti], 98),
  (98, [false, true, true], [px_iload 1, px_iload 2, (px_i2 fun x y => x - y), px_reti], 102),
  (102, [false, true, true], [px_iload 1, px_iload 2, (px_i2 fun x y => x * y), px_reti], 106)]
set_option maxRecDepth 100000 in
set_option maxHeartbeats 8000000 in
theorem sX12_two (d : Nat) (X : px_X) : px_MS d X YX12_two (kX12_two X) :=
  (ms_cons
  (sb_cons (pc2 := 1) (sx_iload_n (show decode cX12_two 0 = .ok (.iload_n 0, 1) by decide +kernel) rfl) rfl
    (sb_cons (pc2 := 44) (sx_tsw (show decode cX12_two 1 = .ok (.tableswitch 101 2 8 #[43, 57, 101, 71, 82, 93, 97], 43) by decide +kernel) (by decide) (by decide +kernel) (by decide +kernel)) rfl sb_nil))
  (ms_cons
  (sb_cons (pc2 := 45) (sx_iload_n (show decode cX12_two 44 = .ok (.iload_n 1, 1) by decide +kernel) rfl) rfl
    (sb_cons (pc2 := 48) (sx_if_ne (show decode cX12_two 45 = .ok (.ifCond .ne 7, 3) by decide +kernel) (by decide)) rfl
    (sb_cons (pc2 := 49) (sx_iload_n (show decode cX12_two 48 = .ok (.iload_n 2, 1) by decide +kernel) rfl) rfl
    (sb_cons (pc2 := 52) (sx_if_eq (show decode cX12_two 49 = .ok (.ifCond .eq 7, 3) by decide +kernel) (by decide)) rfl sb_nil))))
  (ms_cons
  (sb_cons (pc2 := 53) (sx_iconst (show decode cX12_two 52 = .ok (.iconst 1, 1) by decide +kernel) (by decide)) rfl
    (sb_cons (pc2 := 56) (px_snd_goto (show decode cX12_two 53 = .ok (.goto 4, 3) by decide +kernel) (by decide)) rfl sb_nil))
  (ms_cons
  (sb_cons (pc2 := 57) (sx_iconst (show decode cX12_two 56 = .ok (.iconst 0, 1) by decide +kernel) (by decide)) rfl sb_nil)
  (ms_cons
  (sb_cons (pc2 := 58) (sx_reti (show decode cX12_two 57 = .ok (.ireturn, 1) by decide +kernel) rfl) rfl sb_nil)
  (ms_cons
  (sb_cons (pc2 := 59) (sx_iload_n (show decode cX12_two 58 = .ok (.iload_n 1, 1) by decide +kernel) rfl) rfl
    (sb_cons (pc2 := 62) (sx_if_eq (show decode cX12_two 59 = .ok (.ifCond .eq 11, 3) by decide +kernel) (by decide)) rfl
    (sb_cons (pc2 := 63) (sx_iload_n (show decode cX12_two 62 = .ok (.iload_n 2, 1) by decide +kernel) rfl) rfl
    (sb_cons (pc2 := 66) (sx_if_eq (show decode cX12_two 63 = .ok (.ifCond .eq 7, 3) by decide +kernel) (by decide)) rfl
    (sb_cons (pc2 := 67) (sx_iconst (show decode cX12_two 66 = .ok (.iconst 1, 1) by decide +kernel) (by decide)) rfl
    (sb_cons (pc2 := 70) (px_snd_goto (show decode cX12_two 67 = .ok (.goto 4, 3) by decide +kernel) (by decide)) rfl sb_nil))))))
  (ms_cons
  (sb_cons (pc2 := 71) (sx_iconst (show decode cX12_two 70 = .ok (.iconst 0, 1) by decide +kernel) (by decide)) rfl sb_nil)
  (ms_cons
  (sb_cons (pc2 := 72) (sx_reti (show decode cX12_two 71 = .ok (.ireturn, 1) by decide +kernel) rfl) rfl sb_nil)
  (ms_cons
  (sb_cons (pc2 := 73) (sx_iload_n (show decode cX12_two 72 = .ok (.iload_n 1, 1) by decide +kernel) rfl) rfl
    (sb_cons (pc2 := 74) (sx_iload_n (show decode cX12_two 73 = .ok (.iload_n 2, 1) by decide +kernel) rfl) rfl
    (sb_cons (pc2 := 77) (sx_icmp_ge (show decode cX12_two 74 = .ok (.if_icmp .ge 7, 3) by decide +kernel) (by decide)) rfl
    (sb_cons (pc2 := 78) (sx_iconst (show decode cX12_two 77 = .ok (.iconst 1, 1) by decide +kernel) (by decide)) rfl
    (sb_cons (pc2 := 81) (px_snd_goto (show decode cX12_two 78 = .ok (.goto 4, 3) by decide +kernel) (by decide)) rfl sb_nil)))))
  (ms_cons
  (sb_cons (pc2 := 82) (sx_iconst (show decode cX12_two 81 = .ok (.iconst 0, 1) by decide +kernel) (by decide)) rfl sb_nil)
  (ms_cons
  (sb_cons (pc2 := 83) (sx_reti (show decode cX12_two 82 = .ok (.ireturn, 1) by decide +kernel) rfl) rfl sb_nil)
  (ms_cons
  (sb_cons (pc2 := 84) (sx_iload_n (show decode cX12_two 83 = .ok (.iload_n 1, 1) by decide +kernel) rfl) rfl
    (sb_cons (pc2 := 85) (sx_iload_n (show decode cX12_two 84 = .ok (.iload_n 2, 1) by decide +kernel) rfl) rfl
    (sb_cons (pc2 := 88) (sx_icmp_ne (show decode cX12_two 85 = .ok (.if_icmp .ne 7, 3) by decide +kernel) (by decide)) rfl
    (sb_cons (pc2 := 89) (sx_iconst (show decode cX12_two 88 = .ok (.iconst 1, 1) by decide +kernel) (by decide)) rfl
    (sb_cons (pc2 := 92) (px_snd_goto (show decode cX12_two 89 = .ok (.goto 4, 3) by decide +kernel) (by decide)) rfl sb_nil)))))
  (ms_cons
  (sb_cons (pc2 := 93) (sx_iconst (show decode cX12_two 92 = .ok (.iconst 0, 1) by decide +kernel) (by decide)) rfl sb_nil)
  (ms_cons
  (sb_cons (pc2 := 94) (sx_reti (show decode cX12_two 93 = .ok (.ireturn, 1) by decide +kernel) rfl) rfl sb_nil)
  (ms_cons
  (sb_cons (pc2 := 95) (sx_iload_n (show decode cX12_two 94 = .ok (.iload_n 1, 1) by decide +kernel) rfl) rfl
    (sb_cons (pc2 := 96) (sx_iload_n (show decode cX12_two 95 = .ok (.iload_n 2, 1) by decide +kernel) rfl) rfl
    (sb_cons (pc2 := 97) (sx_iadd (show decode cX12_two 96 = .ok (.iadd, 1) by decide +kernel)) rfl
    (sb_cons (pc2 := 98) (sx_reti (show decode cX12_two 97 = .ok (.ireturn, 1) by decide +kernel) rfl) rfl sb_nil))))
  (ms_cons
  (sb_cons (pc2 := 99) (sx_iload_n (show decode cX12_two 98 = .ok (.iload_n 1, 1) by decide +kernel) rfl) rfl
    (sb_cons (pc2 := 100) (sx_iload_n (show decode cX12_two 99 = .ok (.iload_n 2, 1) by decide +kernel) rfl) rfl
    (sb_cons (pc2 := 101) (sx_isub (show decode cX12_two 100 = .ok (.isub, 1) by decide +kernel)) rfl
    (sb_cons (pc2 := 102) (sx_reti (show decode cX12_two 101 = .ok (.ireturn, 1) by decide +kernel) rfl) rfl sb_nil))))
  (ms_cons
  (sb_cons (pc2 := 103) (sx_iload_n (show decode cX12_two 102 = .ok (.iload_n 1, 1) by decide +kernel) rfl) rfl
    (sb_cons (pc2 := 104) (sx_iload_n (show decode cX12_two 103 = .ok (.iload_n 2, 1) by decide +kernel) rfl) rfl
    (sb_cons (pc2 := 105) (sx_imul (show decode cX12_two 104 = .ok (.imul, 1) by decide +kernel)) rfl
    (sb_cons (pc2 := 106) (sx_reti (show decode cX12_two 105 = .ok (.ireturn, 1) by decide +kernel) rfl) rfl sb_nil))))
  ms_nil)))))))))))))))))
def kX12_named (X : px_X) : px_B := [(0, [], [px_iload 1, px_sw [(0, 36), (1, 43), (2, 50), (3, 57), (4, 67)] 77], 36),
  (36, [true, false, true, false], [px_aload 0, px_getf 12 14, px_iload 2, px_iald 0, px_reti], 43),
  (43, [true, false, true, false], [px_aload 0, px_getf 12 17, px_iload 2, px_iald 0, px_reti], 50),
  (50, [true, false, true, false], [px_aload 0, px_getf 12 16, px_iload 2, px_iald 0, px_reti], 57),
  (57, [true, false, true, false], [px_aload 0, px_getf 12 15, px_iload 2, px_iald 0, px_push (.int 10), (px_i2d fun x y => x - x / y * y), px_reti], 67),
  (67, [true, false, true, false], [px_aload 0, px_getf 12 15, px_iload 2, px_iald 0, px_push (.int 10), (px_i2d fun x y => x / y), px_reti], 77),
  (77, [false, false, false, true], [px_iload 3, px_reti], 79)]
set_option maxRecDepth 100000 in
set_option maxHeartbeats 8000000 in
theorem sX12_named (d : Nat) (X : px_X) : px_MS d X YX12_named (kX12_named X) :=
  (ms_cons
  (sb_cons (pc2 := 1) (sx_iload_n (show decode cX12_named 0 = .ok (.iload_n 1, 1) by decide +kernel) rfl) rfl
    (sb_cons (pc2 := 36) (sx_tsw (show decode cX12_named 1 = .ok (.tableswitch 76 0 4 #[35, 42, 49, 56, 66], 35) by decide +kernel) (by decide) (by decide +kernel) (by decide +kernel)) rfl sb_nil))
  (ms_cons
  (sb_cons (pc2 := 37) (sx_aload_n (show decode cX12_named 36 = .ok (.aload_n 0, 1) by decide +kernel) rfl) rfl
    (sb_cons (pc2 := 40) (sx_getf (show decode cX12_named 37 = .ok (.getfield 42, 3) by decide +kernel) rfl iX12 (by decide) wd_681) rfl
    (sb_cons (pc2 := 41) (sx_iload_n (show decode cX12_named 40 = .ok (.iload_n 2, 1) by decide +kernel) rfl) rfl
    (sb_cons (pc2 := 42) (sx_iald (show decode cX12_named 41 = .ok (.iaload, 1) by decide +kernel)) rfl
    (sb_cons (pc2 := 43) (sx_reti (show decode cX12_named 42 = .ok (.ireturn, 1) by decide +kernel) rfl) rfl sb_nil)))))
  (ms_cons
  (sb_cons (pc2 := 44) (sx_aload_n (show decode cX12_named 43 = .ok (.aload_n 0, 1) by decide +kernel) rfl) rfl
    (sb_cons (pc2 := 47) (sx_getf (show decode cX12_named 44 = .ok (.getfield 51, 3) by decide +kernel) rfl iX12 (by decide) wd_684) rfl
    (sb_cons (pc2 := 48) (sx_iload_n (show decode cX12_named 47 = .ok (.iload_n 2, 1) by decide +kernel) rfl) rfl
    (sb_cons (pc2 := 49) (sx_iald (show decode cX12_named 48 = .ok (.iaload, 1) by decide +kernel)) rfl
    (sb_cons (pc2 := 50) (sx_reti (show decode cX12_named 49 = .ok (.ireturn, 1) by decide +kernel) rfl) rfl sb_nil)))))
  (ms_cons
  (sb_cons (pc2 := 51) (sx_aload_n (show decode cX12_named 50 = .ok (.aload_n 0, 1) by decide +kernel) rfl) rfl
    (sb_cons (pc2 := 54) (sx_getf (show decode cX12_named 51 = .ok (.getfield 48, 3) by decide +kernel) rfl iX12 (by decide) wd_683) rfl
    (sb_cons (pc2 := 55) (sx_iload_n (show decode cX12_named 54 = .ok (.iload_n 2, 1) by decide +kernel) rfl) rfl
    (sb_cons (pc2 := 56) (sx_iald (show decode cX12_named 55 = .ok (.iaload, 1) by decide +kernel)) rfl
    (sb_cons (pc2 := 57) (sx_reti (show decode cX12_named 56 = .ok (.ireturn, 1) by decide +kernel) rfl) rfl sb_nil)))))
  (ms_cons
  (sb_cons (pc2 := 58) (sx_aload_n (show decode cX12_named 57 = .ok (.aload_n 0, 1) by decide +kernel) rfl) rfl
    (sb_cons (pc2 := 61) (sx_getf (show decode cX12_named 58 = .ok (.getfield 45, 3) by decide +kernel) rfl iX12 (by decide) wd_682) rfl
    (sb_cons (pc2 := 62) (sx_iload_n (show decode cX12_named 61 = .ok (.iload_n 2, 1) by decide +kernel) rfl) rfl
    (sb_cons (pc2 := 63) (sx_iald (show decode cX12_named 62 = .ok (.iaload, 1) by decide +kernel)) rfl
    (sb_cons (pc2 := 65) (sx_bipush (show decode cX12_named 63 = .ok (.bipush 10, 2) by decide +kernel) (by decide)) rfl
    (sb_cons (pc2 := 66) (sx_irem (show decode cX12_named 65 = .ok (.irem, 1) by decide +kernel)) rfl
    (sb_cons (pc2 := 67) (sx_reti (show decode cX12_named 66 = .ok (.ireturn, 1) by decide +kernel) rfl) rfl sb_nil)))))))
  (ms_cons
  (sb_cons (pc2 := 68) (sx_aload_n (show decode cX12_named 67 = .ok (.aload_n 0, 1) by decide +kernel) rfl) rfl
    (sb_cons (pc2 := 71) (sx_getf (show decode cX12_named 68 = .ok (.getfield 45, 3) by decide +kernel) rfl iX12 (by decide) wd_682) rfl
    (sb_cons (pc2 := 72) (sx_iload_n (show decode cX12_named 71 = .ok (.iload_n 2, 1) by decide +kernel) rfl) rfl
    (sb_cons (pc2 := 73) (sx_iald (show decode cX12_named 72 = .ok (.iaload, 1) by decide +kernel)) rfl
    (sb_cons (pc2 := 75) (sx_bipush (show decode cX12_named 73 = .ok (.bipush 10, 2) by decide +kernel) (by decide)) rfl
    (sb_cons (pc2 := 76) (sx_idiv (show decode cX12_named 75 = .ok (.idiv, 1) by decide +kernel)) rfl
    (sb_cons (pc2 := 77) (sx_reti (show decode cX12_named 76 = .ok (.ireturn, 1) by decide +kernel) rfl) rfl sb_nil)))))))
  (ms_cons
  (sb_cons (pc2 := 78) (sx_iload_n (show decode cX12_named 77 = .ok (.iload_n 3, 1) by decide +kernel) rfl) rfl
    (sb_cons (pc2 := 79) (sx_reti (show decode cX12_named 78 = .ok (.ireturn, 1) by decide +kernel) rfl) rfl sb_nil))
  ms_nil)))))))
def kX12_worked (X : px_X) : px_B := [(0, [], [px_push (.int 0), px_istore 4, px_aload 0, px_getf 12 41, px_iload 1, px_iald 0, px_istore 5], 11),
  (11, [true, true, true, true, true, true, false], [px_iload 5, px_aload 0, px_getf 12 41, px_iload 1, px_push (.int 1), (px_i2 fun x y => x + y), px_iald 0, px_if2 (fun x y => decide (y ≤ x)) 188, px_aload 0, px_getf 12 39, px_iload 5, px_iald 0, px_istore 6, px_iload 6, px_if1 (fun x => decide (x = 0)) 44, px_iload 6, px_push (.int 1), px_if2 (fun x y => decide (¬ x = y)) 85], 44),
  (44, [true, true, true, true, true, true, true], [px_aload 0, px_getf 12 64, px_iload 4, px_iload 6, px_if1 (fun x => decide (¬ x = 0)) 65, px_aload 0, px_getf 12 40, px_iload 5, px_iald 0, px_goto 78], 65),
  (65, [true, true, true, true, true, true, false], [px_aload 0, px_aload 0, px_getf 12 40, px_iload 5, px_iald 0, px_iload 2, px_iload 3, px_cV X 229 4 12], 78),
  (78, [true, true, true, true, true, true, false], [px_iast 0, px_iinc 4 1, px_goto 182], 85),
  (85, [true, true, true, true, true, true, true], [px_iload 6, px_push (.int 4), px_if2 (fun x y => decide (¬ x = y)) 120, px_aload 0, px_getf 12 64, px_iload 4, px_push (.int 1), (px_i2 fun x y => x - y), px_aload 0, px_getf 12 64, px_iload 4, px_push (.int 1), (px_i2 fun x y => x - y), px_iald 0, px_if1 (fun x => decide (¬ x = 0)) 115, px_push (.int 1), px_goto 116], 115),
  (115, [true, true, true, true, true, true, false], [px_push (.int 0)], 116),
  (116, [true, true, true, true, true, true, false], [px_iast 0, px_goto 182], 120),
  (120, [true, true, true, true, true, true, true], [px_iload 6, px_push (.int 10), px_if2 (fun x y => decide (¬ x = y)) 149, px_aload 0, px_getf 12 64, px_iload 4, px_push (.int 1), (px_i2 fun x y => x - y), px_aload 0, px_getf 12 64, px_iload 4, px_push (.int 1), (px_i2 fun x y => x - y), px_iald 0, (px_i1 fun x => -x), px_iast 0, px_goto 182], 149),
  (149, [true, true, true, true, true, true, true], [px_iinc 4 (-1), px_aload 0, px_getf 12 64, px_iload 4, px_push (.int 1), (px_i2 fun x y => x - y), px_iload 6, px_aload 0, px_getf 12 64, px_iload 4, px_push (.int 1), (px_i2 fun x y => x - y), px_iald 0, px_aload 0, px_getf 12 64, px_iload 4, px_iald 0, px_cS X 228 3, px_iast 0], 182),
  (182, [true, true, true, true, true, true, false], [px_iinc 5 1, px_goto 11], 188),
  (188, [true, false, false, false, false, false, false], [px_aload 0, px_getf 12 64, px_push (.int 0), px_iald 0, px_reti], 195)]
set_option maxRecDepth 100000 in
set_option maxHeartbeats 8000000 in
theorem sX12_worked (d : Nat) (X : px_X) : px_MS d X YX12_worked (kX12_worked X) :=
  (ms_cons
  (sb_cons (pc2 := 1) (sx_iconst (show decode cX12_worked 0 = .ok (.iconst 0, 1) by decide +kernel) (by decide)) rfl
    (sb_cons (pc2 := 3) (sx_istore (show decode cX12_worked 1 = .ok (.istore 4, 2) by decide +kernel)) rfl
    (sb_cons (pc2 := 4) (sx_aload_n (show decode cX12_worked 3 = .ok (.aload_n 0, 1) by decide +kernel) rfl) rfl
    (sb_cons (pc2 := 7) (sx_getf (show decode cX12_worked 4 = .ok (.getfield 105, 3) by decide +kernel) rfl iX12 (by decide) wd_702) rfl
    (sb_cons (pc2 := 8) (sx_iload_n (show decode cX12_worked 7 = .ok (.iload_n 1, 1) by decide +kernel) rfl) rfl
    (sb_cons (pc2 := 9) (sx_iald (show decode cX12_worked 8 = .ok (.iaload, 1) by decide +kernel)) rfl
    (sb_cons (pc2 := 11) (sx_istore (show decode cX12_worked 9 = .ok (.istore 5, 2) by decide +kernel)) rfl sb_nil)))))))
  (ms_cons
  (sb_cons (pc2 := 13) (sx_iload (show decode cX12_worked 11 = .ok (.iload 5, 2) by decide +kernel)) rfl
    (sb_cons (pc2 := 14) (sx_aload_n (show decode cX12_worked 13 = .ok (.aload_n 0, 1) by decide +kernel) rfl) rfl
    (sb_cons (pc2 := 17) (sx_getf (show decode cX12_worked 14 = .ok (.getfield 105, 3) by decide +kernel) rfl iX12 (by decide) wd_702) rfl
    (sb_cons (pc2 := 18) (sx_iload_n (show decode cX12_worked 17 = .ok (.iload_n 1, 1) by decide +kernel) rfl) rfl
    (sb_cons (pc2 := 19) (sx_iconst (show decode cX12_worked 18 = .ok (.iconst 1, 1) by decide +kernel) (by decide)) rfl
    (sb_cons (pc2 := 20) (sx_iadd (show decode cX12_worked 19 = .ok (.iadd, 1) by decide +kernel)) rfl
    (sb_cons (pc2 := 21) (sx_iald (show decode cX12_worked 20 = .ok (.iaload, 1) by decide +kernel)) rfl
    (sb_cons (pc2 := 24) (sx_icmp_ge (show decode cX12_worked 21 = .ok (.if_icmp .ge 167, 3) by decide +kernel) (by decide)) rfl
    (sb_cons (pc2 := 25) (sx_aload_n (show decode cX12_worked 24 = .ok (.aload_n 0, 1) by decide +kernel) rfl) rfl
    (sb_cons (pc2 := 28) (sx_getf (show decode cX12_worked 25 = .ok (.getfield 99, 3) by decide +kernel) rfl iX12 (by decide) wd_700) rfl
    (sb_cons (pc2 := 30) (sx_iload (show decode cX12_worked 28 = .ok (.iload 5, 2) by decide +kernel)) rfl
    (sb_cons (pc2 := 31) (sx_iald (show decode cX12_worked 30 = .ok (.iaload, 1) by decide +kernel)) rfl
    (sb_cons (pc2 := 33) (sx_istore (show decode cX12_worked 31 = .ok (.istore 6, 2) by decide +kernel)) rfl
    (sb_cons (pc2 := 35) (sx_iload (show decode cX12_worked 33 = .ok (.iload 6, 2) by decide +kernel)) rfl
    (sb_cons (pc2 := 38) (sx_if_eq (show decode cX12_worked 35 = .ok (.ifCond .eq 9, 3) by decide +kernel) (by decide)) rfl
    (sb_cons (pc2 := 40) (sx_iload (show decode cX12_worked 38 = .ok (.iload 6, 2) by decide +kernel)) rfl
    (sb_cons (pc2 := 41) (sx_iconst (show decode cX12_worked 40 = .ok (.iconst 1, 1) by decide +kernel) (by decide)) rfl
    (sb_cons (pc2 := 44) (sx_icmp_ne (show decode cX12_worked 41 = .ok (.if_icmp .ne 44, 3) by decide +kernel) (by decide)) rfl sb_nil))))))))))))))))))
  (ms_cons
  (sb_cons (pc2 := 45) (sx_aload_n (show decode cX12_worked 44 = .ok (.aload_n 0, 1) by decide +kernel) rfl) rfl
    (sb_cons (pc2 := 48) (sx_getf (show decode cX12_worked 45 = .ok (.getfield 132, 3) by decide +kernel) rfl iX12 (by decide) wd_711) rfl
    (sb_cons (pc2 := 50) (sx_iload (show decode cX12_worked 48 = .ok (.iload 4, 2) by decide +kernel)) rfl
    (sb_cons (pc2 := 52) (sx_iload (show decode cX12_worked 50 = .ok (.iload 6, 2) by decide +kernel)) rfl
    (sb_cons (pc2 := 55) (sx_if_ne (show decode cX12_worked 52 = .ok (.ifCond .ne 13, 3) by decide +kernel) (by decide)) rfl
    (sb_cons (pc2 := 56) (sx_aload_n (show decode cX12_worked 55 = .ok (.aload_n 0, 1) by decide +kernel) rfl) rfl
    (sb_cons (pc2 := 59) (sx_getf (show decode cX12_worked 56 = .ok (.getfield 102, 3) by decide +kernel) rfl iX12 (by decide) wd_701) rfl
    (sb_cons (pc2 := 61) (sx_iload (show decode cX12_worked 59 = .ok (.iload 5, 2) by decide +kernel)) rfl
    (sb_cons (pc2 := 62) (sx_iald (show decode cX12_worked 61 = .ok (.iaload, 1) by decide +kernel)) rfl
    (sb_cons (pc2 := 65) (px_snd_goto (show decode cX12_worked 62 = .ok (.goto 16, 3) by decide +kernel) (by decide)) rfl sb_nil))))))))))
  (ms_cons
  (sb_cons (pc2 := 66) (sx_aload_n (show decode cX12_worked 65 = .ok (.aload_n 0, 1) by decide +kernel) rfl) rfl
    (sb_cons (pc2 := 67) (sx_aload_n (show decode cX12_worked 66 = .ok (.aload_n 0, 1) by decide +kernel) rfl) rfl
    (sb_cons (pc2 := 70) (sx_getf (show decode cX12_worked 67 = .ok (.getfield 102, 3) by decide +kernel) rfl iX12 (by decide) wd_701) rfl
    (sb_cons (pc2 := 72) (sx_iload (show decode cX12_worked 70 = .ok (.iload 5, 2) by decide +kernel)) rfl
    (sb_cons (pc2 := 73) (sx_iald (show decode cX12_worked 72 = .ok (.iaload, 1) by decide +kernel)) rfl
    (sb_cons (pc2 := 74) (sx_iload_n (show decode cX12_worked 73 = .ok (.iload_n 2, 1) by decide +kernel) rfl) rfl
    (sb_cons (pc2 := 75) (sx_iload_n (show decode cX12_worked 74 = .ok (.iload_n 3, 1) by decide +kernel) rfl) rfl
    (sb_cons (pc2 := 78) (sx_cV (Y' := YX12_named) (q := (RX12, TX12, 69)) rfl (show decode cX12_worked 75 = .ok (.invokevirtual 355, 3) by decide +kernel) rfl rfl (px_w4 wd_911 wd_912 wd_913 wd_719) wd_910 ⟨by decide, by decide, by decide +kernel⟩ (by decide)) rfl sb_nil))))))))
  (ms_cons
  (sb_cons (pc2 := 79) (sx_iast (show decode cX12_worked 78 = .ok (.iastore, 1) by decide +kernel)) rfl
    (sb_cons (pc2 := 82) (sx_iinc (show decode cX12_worked 79 = .ok (.iinc 4 1, 3) by decide +kernel) (by decide)) rfl
    (sb_cons (pc2 := 85) (px_snd_goto (show decode cX12_worked 82 = .ok (.goto 100, 3) by decide +kernel) (by decide)) rfl sb_nil)))
  (ms_cons
  (sb_cons (pc2 := 87) (sx_iload (show decode cX12_worked 85 = .ok (.iload 6, 2) by decide +kernel)) rfl
    (sb_cons (pc2 := 88) (sx_iconst (show decode cX12_worked 87 = .ok (.iconst 4, 1) by decide +kernel) (by decide)) rfl
    (sb_cons (pc2 := 91) (sx_icmp_ne (show decode cX12_worked 88 = .ok (.if_icmp .ne 32, 3) by decide +kernel) (by decide)) rfl
    (sb_cons (pc2 := 92) (sx_aload_n (show decode cX12_worked 91 = .ok (.aload_n 0, 1) by decide +kernel) rfl) rfl
    (sb_cons (pc2 := 95) (sx_getf (show decode cX12_worked 92 = .ok (.getfield 132, 3) by decide +kernel) rfl iX12 (by decide) wd_711) rfl
    (sb_cons (pc2 := 97) (sx_iload (show decode cX12_worked 95 = .ok (.iload 4, 2) by decide +kernel)) rfl
    (sb_cons (pc2 := 98) (sx_iconst (show decode cX12_worked 97 = .ok (.iconst 1, 1) by decide +kernel) (by decide)) rfl
    (sb_cons (pc2 := 99) (sx_isub (show decode cX12_worked 98 = .ok (.isub, 1) by decide +kernel)) rfl
    (sb_cons (pc2 := 100) (sx_aload_n (show decode cX12_worked 99 = .ok (.aload_n 0, 1) by decide +kernel) rfl) rfl
    (sb_cons (pc2 := 103) (sx_getf (show decode cX12_worked 100 = .ok (.getfield 132, 3) by decide +kernel) rfl iX12 (by decide) wd_711) rfl
    (sb_cons (pc2 := 105) (sx_iload (show decode cX12_worked 103 = .ok (.iload 4, 2) by decide +kernel)) rfl
    (sb_cons (pc2 := 106) (sx_iconst (show decode cX12_worked 105 = .ok (.iconst 1, 1) by decide +kernel) (by decide)) rfl
    (sb_cons (pc2 := 107) (sx_isub (show decode cX12_worked 106 = .ok (.isub, 1) by decide +kernel)) rfl
    (sb_cons (pc2 := 108) (sx_iald (show decode cX12_worked 107 = .ok (.iaload, 1) by decide +kernel)) rfl
    (sb_cons (pc2 := 111) (sx_if_ne (show decode cX12_worked 108 = .ok (.ifCond .ne 7, 3) by decide +kernel) (by decide)) rfl
    (sb_cons (pc2 := 112) (sx_iconst (show decode cX12_worked 111 = .ok (.iconst 1, 1) by decide +kernel) (by decide)) rfl
    (sb_cons (pc2 := 115) (px_snd_goto (show decode cX12_worked 112 = .ok (.goto 4, 3) by decide +kernel) (by decide)) rfl sb_nil)))))))))))))))))
  (ms_cons
  (sb_cons (pc2 := 116) (sx_iconst (show decode cX12_worked 115 = .ok (.iconst 0, 1) by decide +kernel) (by decide)) rfl sb_nil)
  (ms_cons
  (sb_cons (pc2 := 117) (sx_iast (show decode cX12_worked 116 = .ok (.iastore, 1) by decide +kernel)) rfl
    (sb_cons (pc2 := 120) (px_snd_goto (show decode cX12_worked 117 = .ok (.goto 65, 3) by decide +kernel) (by decide)) rfl sb_nil))
  (ms_cons
  (sb_cons (pc2 := 122) (sx_iload (show decode cX12_worked 120 = .ok (.iload 6, 2) by decide +kernel)) rfl
    (sb_cons (pc2 := 124) (sx_bipush (show decode cX12_worked 122 = .ok (.bipush 10, 2) by decide +kernel) (by decide)) rfl
    (sb_cons (pc2 := 127) (sx_icmp_ne (show decode cX12_worked 124 = .ok (.if_icmp .ne 25, 3) by decide +kernel) (by decide)) rfl
    (sb_cons (pc2 := 128) (sx_aload_n (show decode cX12_worked 127 = .ok (.aload_n 0, 1) by decide +kernel) rfl) rfl
    (sb_cons (pc2 := 131) (sx_getf (show decode cX12_worked 128 = .ok (.getfield 132, 3) by decide +kernel) rfl iX12 (by decide) wd_711) rfl
    (sb_cons (pc2 := 133) (sx_iload (show decode cX12_worked 131 = .ok (.iload 4, 2) by decide +kernel)) rfl
    (sb_cons (pc2 := 134) (sx_iconst (show decode cX12_worked 133 = .ok (.iconst 1, 1) by decide +kernel) (by decide)) rfl
    (sb_cons (pc2 := 135) (sx_isub (show decode cX12_worked 134 = .ok (.isub, 1) by decide +kernel)) rfl
    (sb_cons (pc2 := 136) (sx_aload_n (show decode cX12_worked 135 = .ok (.aload_n 0, 1) by decide +kernel) rfl) rfl
    (sb_cons (pc2 := 139) (sx_getf (show decode cX12_worked 136 = .ok (.getfield 132, 3) by decide +kernel) rfl iX12 (by decide) wd_711) rfl
    (sb_cons (pc2 := 141) (sx_iload (show decode cX12_worked 139 = .ok (.iload 4, 2) by decide +kernel)) rfl
    (sb_cons (pc2 := 142) (sx_iconst (show decode cX12_worked 141 = .ok (.iconst 1, 1) by decide +kernel) (by decide)) rfl
    (sb_cons (pc2 := 143) (sx_isub (show decode cX12_worked 142 = .ok (.isub, 1) by decide +kernel)) rfl
    (sb_cons (pc2 := 144) (sx_iald (show decode cX12_worked 143 = .ok (.iaload, 1) by decide +kernel)) rfl
    (sb_cons (pc2 := 145) (sx_ineg (show decode cX12_worked 144 = .ok (.ineg, 1) by decide +kernel)) rfl
    (sb_cons (pc2 := 146) (sx_iast (show decode cX12_worked 145 = .ok (.iastore, 1) by decide +kernel)) rfl
    (sb_cons (pc2 := 149) (px_snd_goto (show decode cX12_worked 146 = .ok (.goto 36, 3) by decide +kernel) (by decide)) rfl sb_nil)))))))))))))))))
  (ms_cons
  (sb_cons (pc2 := 152) (sx_iinc (show decode cX12_worked 149 = .ok (.iinc 4 (-1), 3) by decide +kernel) (by decide)) rfl
    (sb_cons (pc2 := 153) (sx_aload_n (show decode cX12_worked 152 = .ok (.aload_n 0, 1) by decide +kernel) rfl) rfl
    (sb_cons (pc2 := 156) (sx_getf (show decode cX12_worked 153 = .ok (.getfield 132, 3) by decide +kernel) rfl iX12 (by decide) wd_711) rfl
    (sb_cons (pc2 := 158) (sx_iload (show decode cX12_worked 156 = .ok (.iload 4, 2) by decide +kernel)) rfl
    (sb_cons (pc2 := 159) (sx_iconst (show decode cX12_worked 158 = .ok (.iconst 1, 1) by decide +kernel) (by decide)) rfl
    (sb_cons (pc2 := 160) (sx_isub (show decode cX12_worked 159 = .ok (.isub, 1) by decide +kernel)) rfl
    (sb_cons (pc2 := 162) (sx_iload (show decode cX12_worked 160 = .ok (.iload 6, 2) by decide +kernel)) rfl
    (sb_cons (pc2 := 163) (sx_aload_n (show decode cX12_worked 162 = .ok (.aload_n 0, 1) by decide +kernel) rfl) rfl
    (sb_cons (pc2 := 166) (sx_getf (show decode cX12_worked 163 = .ok (.getfield 132, 3) by decide +kernel) rfl iX12 (by decide) wd_711) rfl
    (sb_cons (pc2 := 168) (sx_iload (show decode cX12_worked 166 = .ok (.iload 4, 2) by decide +kernel)) rfl
    (sb_cons (pc2 := 169) (sx_iconst (show decode cX12_worked 168 = .ok (.iconst 1, 1) by decide +kernel) (by decide)) rfl
    (sb_cons (pc2 := 170) (sx_isub (show decode cX12_worked 169 = .ok (.isub, 1) by decide +kernel)) rfl
    (sb_cons (pc2 := 171) (sx_iald (show decode cX12_worked 170 = .ok (.iaload, 1) by decide +kernel)) rfl
    (sb_cons (pc2 := 172) (sx_aload_n (show decode cX12_worked 171 = .ok (.aload_n 0, 1) by decide +kernel) rfl) rfl
    (sb_cons (pc2 := 175) (sx_getf (show decode cX12_worked 172 = .ok (.getfield 132, 3) by decide +kernel) rfl iX12 (by decide) wd_711) rfl
    (sb_cons (pc2 := 177) (sx_iload (show decode cX12_worked 175 = .ok (.iload 4, 2) by decide +kernel)) rfl
    (sb_cons (pc2 := 178) (sx_iald (show decode cX12_worked 177 = .ok (.iaload, 1) by decide +kernel)) rfl
    (sb_cons (pc2 := 181) (sx_cS (Y' := YX12_two) rfl (show decode cX12_worked 178 = .ok (.invokestatic 358, 3) by decide +kernel) rfl (px_w3 wd_915 wd_916 wd_719) wd_914 ⟨by decide, by decide, by decide +kernel⟩ (by decide)) rfl
    (sb_cons (pc2 := 182) (sx_iast (show decode cX12_worked 181 = .ok (.iastore, 1) by decide +kernel)) rfl sb_nil)))))))))))))))))))
  (ms_cons
  (sb_cons (pc2 := 185) (sx_iinc (show decode cX12_worked 182 = .ok (.iinc 5 1, 3) by decide +kernel) (by decide)) rfl
    (sb_cons (pc2 := 188) (px_snd_goto (show decode cX12_worked 185 = .ok (.goto (-174), 3) by decide +kernel) (by decide)) rfl sb_nil))
  (ms_cons
  (sb_cons (pc2 := 189) (sx_aload_n (show decode cX12_worked 188 = .ok (.aload_n 0, 1) by decide +kernel) rfl) rfl
    (sb_cons (pc2 := 192) (sx_getf (show decode cX12_worked 189 = .ok (.getfield 132, 3) by decide +kernel) rfl iX12 (by decide) wd_711) rfl
    (sb_cons (pc2 := 193) (sx_iconst (show decode cX12_worked 192 = .ok (.iconst 0, 1) by decide +kernel) (by decide)) rfl
    (sb_cons (pc2 := 194) (sx_iald (show decode cX12_worked 193 = .ok (.iaload, 1) by decide +kernel)) rfl
    (sb_cons (pc2 := 195) (sx_reti (show decode cX12_worked 194 = .ok (.ireturn, 1) by decide +kernel) rfl) rfl sb_nil)))))
  ms_nil))))))))))))
def kX12_worth (X : px_X) : px_B := [(0, [], [px_aload 0, px_iload 1, px_cV X 167 2 12, px_if1 (fun x => decide (x = 0)) 40, px_iload 2, px_cS X 168 1, px_if1 (fun x => decide (x = 0)) 40, px_iload 3, px_push (.int 0), px_aload 0, px_getf 12 38, px_push (.int 1), (px_i2 fun x y => x - y), px_cS X 165 3, px_if1 (fun x => decide (x = 0)) 40, px_aload 0, px_iload 3, px_iload 1, px_iload 2, px_cV X 230 4 12, px_i2l, px_goto 43], 40),
  (40, [false, false, false, false], [px_push (.long (-4611686018427387904))], 43),
  (43, [false, false, false, false], [px_retl], 44)]
set_option maxRecDepth 100000 in
set_option maxHeartbeats 8000000 in
theorem sX12_worth (d : Nat) (X : px_X) : px_MS d X YX12_worth (kX12_worth X) :=
  (ms_cons
  (sb_cons (pc2 := 1) (sx_aload_n (show decode cX12_worth 0 = .ok (.aload_n 0, 1) by decide +kernel) rfl) rfl
    (sb_cons (pc2 := 2) (sx_iload_n (show decode cX12_worth 1 = .ok (.iload_n 1, 1) by decide +kernel) rfl) rfl
    (sb_cons (pc2 := 5) (sx_cV (Y' := YX12_isFind) (q := (RX12, TX12, 69)) rfl (show decode cX12_worth 2 = .ok (.invokevirtual 196, 3) by decide +kernel) rfl rfl (px_w4 wd_761 wd_762 wd_763 wd_719) wd_760 ⟨by decide, by decide, by decide +kernel⟩ (by decide)) rfl
    (sb_cons (pc2 := 8) (sx_if_eq (show decode cX12_worth 5 = .ok (.ifCond .eq 35, 3) by decide +kernel) (by decide)) rfl
    (sb_cons (pc2 := 9) (sx_iload_n (show decode cX12_worth 8 = .ok (.iload_n 2, 1) by decide +kernel) rfl) rfl
    (sb_cons (pc2 := 12) (sx_cS (Y' := YX12_isDay) rfl (show decode cX12_worth 9 = .ok (.invokestatic 222, 3) by decide +kernel) rfl (px_w3 wd_786 wd_787 wd_719) wd_785 ⟨by decide, by decide, by decide +kernel⟩ (by decide)) rfl
    (sb_cons (pc2 := 15) (sx_if_eq (show decode cX12_worth 12 = .ok (.ifCond .eq 28, 3) by decide +kernel) (by decide)) rfl
    (sb_cons (pc2 := 16) (sx_iload_n (show decode cX12_worth 15 = .ok (.iload_n 3, 1) by decide +kernel) rfl) rfl
    (sb_cons (pc2 := 17) (sx_iconst (show decode cX12_worth 16 = .ok (.iconst 0, 1) by decide +kernel) (by decide)) rfl
    (sb_cons (pc2 := 18) (sx_aload_n (show decode cX12_worth 17 = .ok (.aload_n 0, 1) by decide +kernel) rfl) rfl
    (sb_cons (pc2 := 21) (sx_getf (show decode cX12_worth 18 = .ok (.getfield 216, 3) by decide +kernel) rfl iX12 (by decide) wd_780) rfl
    (sb_cons (pc2 := 22) (sx_iconst (show decode cX12_worth 21 = .ok (.iconst 1, 1) by decide +kernel) (by decide)) rfl
    (sb_cons (pc2 := 23) (sx_isub (show decode cX12_worth 22 = .ok (.isub, 1) by decide +kernel)) rfl
    (sb_cons (pc2 := 26) (sx_cS (Y' := YX12_in) rfl (show decode cX12_worth 23 = .ok (.invokestatic 147, 3) by decide +kernel) rfl (px_w3 wd_717 wd_718 wd_719) wd_716 ⟨by decide, by decide, by decide +kernel⟩ (by decide)) rfl
    (sb_cons (pc2 := 29) (sx_if_eq (show decode cX12_worth 26 = .ok (.ifCond .eq 14, 3) by decide +kernel) (by decide)) rfl
    (sb_cons (pc2 := 30) (sx_aload_n (show decode cX12_worth 29 = .ok (.aload_n 0, 1) by decide +kernel) rfl) rfl
    (sb_cons (pc2 := 31) (sx_iload_n (show decode cX12_worth 30 = .ok (.iload_n 3, 1) by decide +kernel) rfl) rfl
    (sb_cons (pc2 := 32) (sx_iload_n (show decode cX12_worth 31 = .ok (.iload_n 1, 1) by decide +kernel) rfl) rfl
    (sb_cons (pc2 := 33) (sx_iload_n (show decode cX12_worth 32 = .ok (.iload_n 2, 1) by decide +kernel) rfl) rfl
    (sb_cons (pc2 := 36) (sx_cV (Y' := YX12_worked) (q := (RX12, TX12, 69)) rfl (show decode cX12_worth 33 = .ok (.invokevirtual 219, 3) by decide +kernel) rfl rfl (px_w4 wd_782 wd_783 wd_784 wd_719) wd_781 ⟨by decide, by decide, by decide +kernel⟩ (by decide)) rfl
    (sb_cons (pc2 := 37) (sx_i2l (show decode cX12_worth 36 = .ok (.i2l, 1) by decide +kernel)) rfl
    (sb_cons (pc2 := 40) (px_snd_goto (show decode cX12_worth 37 = .ok (.goto 6, 3) by decide +kernel) (by decide)) rfl sb_nil))))))))))))))))))))))
  (ms_cons
  (sb_cons (pc2 := 43) (sx_ldc2 (show decode cX12_worth 40 = .ok (.ldc2_w 191, 3) by decide +kernel) wd_755) rfl sb_nil)
  (ms_cons
  (sb_cons (pc2 := 44) (sx_retl (show decode cX12_worth 43 = .ok (.lreturn, 1) by decide +kernel) rfl) rfl sb_nil)
  ms_nil)))
def kX12_shared (X : px_X) : px_B := [(0, [], [px_push (.int 0), px_istore 4, px_push (.int 8), px_iload 1, (px_i2 fun x y => x * y), px_istore 5], 9),
  (9, [true, true, true, true, true, true, false], [px_iload 5, px_push (.int 8), px_iload 1, (px_i2 fun x y => x * y), px_aload 0, px_getf 12 18, px_iload 1, px_iald 0, (px_i2 fun x y => x + y), px_if2 (fun x y => decide (y ≤ x)) 88, px_push (.int 8), px_iload 2, (px_i2 fun x y => x * y), px_istore 6], 31),
  (31, [true, true, true, true, true, true, true], [px_iload 6, px_push (.int 8), px_iload 2, (px_i2 fun x y => x * y), px_aload 0, px_getf 12 18, px_iload 2, px_iald 0, (px_i2 fun x y => x + y), px_if2 (fun x y => decide (y ≤ x)) 82, px_iload 4, px_aload 0, px_getf 12 19, px_iload 6, px_iald 0, px_aload 0, px_getf 12 19, px_iload 5, px_iald 0, px_iload 3, (px_i2 fun x y => x + y), px_if2 (fun x y => decide (¬ x = y)) 72, px_push (.int 1), px_goto 73], 72),
  (72, [true, true, true, true, false, true, true], [px_push (.int 0)], 73),
  (73, [true, true, true, true, false, true, true], [(px_i2 fun x y => x + y), px_istore 4, px_iinc 6 1, px_goto 31], 82),
  (82, [true, true, true, true, true, true, false], [px_iinc 5 1, px_goto 9], 88),
  (88, [false, false, false, false, true, false, false], [px_iload 4, px_reti], 91)]
set_option maxRecDepth 100000 in
set_option maxHeartbeats 8000000 in
theorem sX12_shared (d : Nat) (X : px_X) : px_MS d X YX12_shared (kX12_shared X) :=
  (ms_cons
  (sb_cons (pc2 := 1) (sx_iconst (show decode cX12_shared 0 = .ok (.iconst 0, 1) by decide +kernel) (by decide)) rfl
    (sb_cons (pc2 := 3) (sx_istore (show decode cX12_shared 1 = .ok (.istore 4, 2) by decide +kernel)) rfl
    (sb_cons (pc2 := 5) (sx_bipush (show decode cX12_shared 3 = .ok (.bipush 8, 2) by decide +kernel) (by decide)) rfl
    (sb_cons (pc2 := 6) (sx_iload_n (show decode cX12_shared 5 = .ok (.iload_n 1, 1) by decide +kernel) rfl) rfl
    (sb_cons (pc2 := 7) (sx_imul (show decode cX12_shared 6 = .ok (.imul, 1) by decide +kernel)) rfl
    (sb_cons (pc2 := 9) (sx_istore (show decode cX12_shared 7 = .ok (.istore 5, 2) by decide +kernel)) rfl sb_nil))))))
  (ms_cons
  (sb_cons (pc2 := 11) (sx_iload (show decode cX12_shared 9 = .ok (.iload 5, 2) by decide +kernel)) rfl
    (sb_cons (pc2 := 13) (sx_bipush (show decode cX12_shared 11 = .ok (.bipush 8, 2) by decide +kernel) (by decide)) rfl
    (sb_cons (pc2 := 14) (sx_iload_n (show decode cX12_shared 13 = .ok (.iload_n 1, 1) by decide +kernel) rfl) rfl
    (sb_cons (pc2 := 15) (sx_imul (show decode cX12_shared 14 = .ok (.imul, 1) by decide +kernel)) rfl
    (sb_cons (pc2 := 16) (sx_aload_n (show decode cX12_shared 15 = .ok (.aload_n 0, 1) by decide +kernel) rfl) rfl
    (sb_cons (pc2 := 19) (sx_getf (show decode cX12_shared 16 = .ok (.getfield 54, 3) by decide +kernel) rfl iX12 (by decide) wd_685) rfl
    (sb_cons (pc2 := 20) (sx_iload_n (show decode cX12_shared 19 = .ok (.iload_n 1, 1) by decide +kernel) rfl) rfl
    (sb_cons (pc2 := 21) (sx_iald (show decode cX12_shared 20 = .ok (.iaload, 1) by decide +kernel)) rfl
    (sb_cons (pc2 := 22) (sx_iadd (show decode cX12_shared 21 = .ok (.iadd, 1) by decide +kernel)) rfl
    (sb_cons (pc2 := 25) (sx_icmp_ge (show decode cX12_shared 22 = .ok (.if_icmp .ge 66, 3) by decide +kernel) (by decide)) rfl
    (sb_cons (pc2 := 27) (sx_bipush (show decode cX12_shared 25 = .ok (.bipush 8, 2) by decide +kernel) (by decide)) rfl
    (sb_cons (pc2 := 28) (sx_iload_n (show decode cX12_shared 27 = .ok (.iload_n 2, 1) by decide +kernel) rfl) rfl
    (sb_cons (pc2 := 29) (sx_imul (show decode cX12_shared 28 = .ok (.imul, 1) by decide +kernel)) rfl
    (sb_cons (pc2 := 31) (sx_istore (show decode cX12_shared 29 = .ok (.istore 6, 2) by decide +kernel)) rfl sb_nil))))))))))))))
  (ms_cons
  (sb_cons (pc2 := 33) (sx_iload (show decode cX12_shared 31 = .ok (.iload 6, 2) by decide +kernel)) rfl
    (sb_cons (pc2 := 35) (sx_bipush (show decode cX12_shared 33 = .ok (.bipush 8, 2) by decide +kernel) (by decide)) rfl
    (sb_cons (pc2 := 36) (sx_iload_n (show decode cX12_shared 35 = .ok (.iload_n 2, 1) by decide +kernel) rfl) rfl
    (sb_cons (pc2 := 37) (sx_imul (show decode cX12_shared 36 = .ok (.imul, 1) by decide +kernel)) rfl
    (sb_cons (pc2 := 38) (sx_aload_n (show decode cX12_shared 37 = .ok (.aload_n 0, 1) by decide +kernel) rfl) rfl
    (sb_cons (pc2 := 41) (sx_getf (show decode cX12_shared 38 = .ok (.getfield 54, 3) by decide +kernel) rfl iX12 (by decide) wd_685) rfl
    (sb_cons (pc2 := 42) (sx_iload_n (show decode cX12_shared 41 = .ok (.iload_n 2, 1) by decide +kernel) rfl) rfl
    (sb_cons (pc2 := 43) (sx_iald (show decode cX12_shared 42 = .ok (.iaload, 1) by decide +kernel)) rfl
    (sb_cons (pc2 := 44) (sx_iadd (show decode cX12_shared 43 = .ok (.iadd, 1) by decide +kernel)) rfl
    (sb_cons (pc2 := 47) (sx_icmp_ge (show decode cX12_shared 44 = .ok (.if_icmp .ge 38, 3) by decide +kernel) (by decide)) rfl
    (sb_cons (pc2 := 49) (sx_iload (show decode cX12_shared 47 = .ok (.iload 4, 2) by decide +kernel)) rfl
    (sb_cons (pc2 := 50) (sx_aload_n (show decode cX12_shared 49 = .ok (.aload_n 0, 1) by decide +kernel) rfl) rfl
    (sb_cons (pc2 := 53) (sx_getf (show decode cX12_shared 50 = .ok (.getfield 57, 3) by decide +kernel) rfl iX12 (by decide) wd_686) rfl
    (sb_cons (pc2 := 55) (sx_iload (show decode cX12_shared 53 = .ok (.iload 6, 2) by decide +kernel)) rfl
    (sb_cons (pc2 := 56) (sx_iald (show decode cX12_shared 55 = .ok (.iaload, 1) by decide +kernel)) rfl
    (sb_cons (pc2 := 57) (sx_aload_n (show decode cX12_shared 56 = .ok (.aload_n 0, 1) by decide +kernel) rfl) rfl
    (sb_cons (pc2 := 60) (sx_getf (show decode cX12_shared 57 = .ok (.getfield 57, 3) by decide +kernel) rfl iX12 (by decide) wd_686) rfl
    (sb_cons (pc2 := 62) (sx_iload (show decode cX12_shared 60 = .ok (.iload 5, 2) by decide +kernel)) rfl
    (sb_cons (pc2 := 63) (sx_iald (show decode cX12_shared 62 = .ok (.iaload, 1) by decide +kernel)) rfl
    (sb_cons (pc2 := 64) (sx_iload_n (show decode cX12_shared 63 = .ok (.iload_n 3, 1) by decide +kernel) rfl) rfl
    (sb_cons (pc2 := 65) (sx_iadd (show decode cX12_shared 64 = .ok (.iadd, 1) by decide +kernel)) rfl
    (sb_cons (pc2 := 68) (sx_icmp_ne (show decode cX12_shared 65 = .ok (.if_icmp .ne 7, 3) by decide +kernel) (by decide)) rfl
    (sb_cons (pc2 := 69) (sx_iconst (show decode cX12_shared 68 = .ok (.iconst 1, 1) by decide +kernel) (by decide)) rfl
    (sb_cons (pc2 := 72) (px_snd_goto (show decode cX12_shared 69 = .ok (.goto 4, 3) by decide +kernel) (by decide)) rfl sb_nil))))))))))))))))))))))))
  (ms_cons
  (sb_cons (pc2 := 73) (sx_iconst (show decode cX12_shared 72 = .ok (.iconst 0, 1) by decide +kernel) (by decide)) rfl sb_nil)
  (ms_cons
  (sb_cons (pc2 := 74) (sx_iadd (show decode cX12_shared 73 = .ok (.iadd, 1) by decide +kernel)) rfl
    (sb_cons (pc2 := 76) (sx_istore (show decode cX12_shared 74 = .ok (.istore 4, 2) by decide +kernel)) rfl
    (sb_cons (pc2 := 79) (sx_iinc (show decode cX12_shared 76 = .ok (.iinc 6 1, 3) by decide +kernel) (by decide)) rfl
    (sb_cons (pc2 := 82) (px_snd_goto (show decode cX12_shared 79 = .ok (.goto (-48), 3) by decide +kernel) (by decide)) rfl sb_nil))))
  (ms_cons
  (sb_cons (pc2 := 85) (sx_iinc (show decode cX12_shared 82 = .ok (.iinc 5 1, 3) by decide +kernel) (by decide)) rfl
    (sb_cons (pc2 := 88) (px_snd_goto (show decode cX12_shared 85 = .ok (.goto (-76), 3) by decide +kernel) (by decide)) rfl sb_nil))
  (ms_cons
  (sb_cons (pc2 := 90) (sx_iload (show decode cX12_shared 88 = .ok (.iload 4, 2) by decide +kernel)) rfl
    (sb_cons (pc2 := 91) (sx_reti (show decode cX12_shared 90 = .ok (.ireturn, 1) by decide +kernel) rfl) rfl sb_nil))
  ms_nil)))))))
