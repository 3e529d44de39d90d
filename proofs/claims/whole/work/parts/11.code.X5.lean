/-! the code of methods as pure instructions (written by wip/whole/gen.py) -/
def kX5_init (X : px_X) : px_B := [(0, [], [px_aload 0, px_pop, px_aload 0, px_new 4 [.int 0, .int 0, .null, .null, .null, .null], px_dup, px_cI X 38 1, px_putr 5 0, px_aload 0, px_new 4 [.int 0, .int 0, .null, .null, .null, .null], px_dup, px_cI X 38 1, px_putr 5 1, px_aload 0, px_push (.int 0), px_puti 5 2, px_aload 0, px_push (.int 160), px_newi 0, px_putr 5 3, px_aload 0, px_push (.int 0), px_puti 5 4, px_aload 0, px_push (.int 0), px_puti 5 5, px_aload 0, px_push (.int 0), px_puti 5 6, px_aload 0, px_push (.int 0), px_puti 5 7, px_retv], 61)]
set_option maxRecDepth 100000 in
set_option maxHeartbeats 8000000 in
theorem sX5_init (d : Nat) (X : px_X) : px_MS d X YX5_init (kX5_init X) :=
  (ms_cons
  (sb_cons (pc2 := 1) (sx_aload_n (show decode cX5_init 0 = .ok (.aload_n 0, 1) by decide +kernel) rfl) rfl
    (sb_cons (pc2 := 4) (sx_pop (show decode cX5_init 1 = .ok (.invokespecial 3, 3) by decide +kernel) wd_167 wd_1 wd_2) rfl
    (sb_cons (pc2 := 5) (sx_aload_n (show decode cX5_init 4 = .ok (.aload_n 0, 1) by decide +kernel) rfl) rfl
    (sb_cons (pc2 := 8) (sx_new (show decode cX5_init 5 = .ok (.new 9, 3) by decide +kernel) rfl iX4 tyX4_ok wd_168 wd_169 wd_143 (px_dflt (by decide +kernel)) rfl (fun _ => rfl)) rfl
    (sb_cons (pc2 := 9) (sx_dup (show decode cX5_init 8 = .ok (.dup, 1) by decide +kernel)) rfl
    (sb_cons (pc2 := 12) (sx_cIN (Y' := YX4_init) (host := "WreckField") rfl (show decode cX5_init 9 = .ok (.invokespecial 11, 3) by decide +kernel) (List.mem_of_getElem? (i := 4) rfl) wd_171 wd_143 rfl rfl wd_170 ⟨by decide, by decide, by decide +kernel⟩ (by decide)) rfl
    (sb_cons (pc2 := 15) (sx_putr (show decode cX5_init 12 = .ok (.putfield 12, 3) by decide +kernel) rfl iX5 tyX5_ok nmX5 (by decide) wd_172 (Or.inl ⟨_, rfl⟩) (Or.inl rfl)) rfl
    (sb_cons (pc2 := 16) (sx_aload_n (show decode cX5_init 15 = .ok (.aload_n 0, 1) by decide +kernel) rfl) rfl
    (sb_cons (pc2 := 19) (sx_new (show decode cX5_init 16 = .ok (.new 9, 3) by decide +kernel) rfl iX4 tyX4_ok wd_168 wd_169 wd_143 (px_dflt (by decide +kernel)) rfl (fun _ => rfl)) rfl
    (sb_cons (pc2 := 20) (sx_dup (show decode cX5_init 19 = .ok (.dup, 1) by decide +kernel)) rfl
    (sb_cons (pc2 := 23) (sx_cIN (Y' := YX4_init) (host := "WreckField") rfl (show decode cX5_init 20 = .ok (.invokespecial 11, 3) by decide +kernel) (List.mem_of_getElem? (i := 4) rfl) wd_171 wd_143 rfl rfl wd_170 ⟨by decide, by decide, by decide +kernel⟩ (by decide)) rfl
    (sb_cons (pc2 := 26) (sx_putr (show decode cX5_init 23 = .ok (.putfield 18, 3) by decide +kernel) rfl iX5 tyX5_ok nmX5 (by decide) wd_173 (Or.inl ⟨_, rfl⟩) (Or.inl rfl)) rfl
    (sb_cons (pc2 := 27) (sx_aload_n (show decode cX5_init 26 = .ok (.aload_n 0, 1) by decide +kernel) rfl) rfl
    (sb_cons (pc2 := 28) (sx_iconst (show decode cX5_init 27 = .ok (.iconst 0, 1) by decide +kernel) (by decide)) rfl
    (sb_cons (pc2 := 31) (sx_puti (show decode cX5_init 28 = .ok (.putfield 21, 3) by decide +kernel) rfl iX5 tyX5_ok nmX5 (by decide) wd_174 rfl (Or.inl rfl)) rfl
    (sb_cons (pc2 := 32) (sx_aload_n (show decode cX5_init 31 = .ok (.aload_n 0, 1) by decide +kernel) rfl) rfl
    (sb_cons (pc2 := 35) (sx_sipush (show decode cX5_init 32 = .ok (.sipush 160, 3) by decide +kernel) (by decide)) rfl
    (sb_cons (pc2 := 37) (sx_newi (t := 0) (show decode cX5_init 35 = .ok (.newarray .int, 2) by decide +kernel) rfl (fun _ => rfl) (Or.inl rfl) wd_17) rfl
    (sb_cons (pc2 := 40) (sx_putr (show decode cX5_init 37 = .ok (.putfield 25, 3) by decide +kernel) rfl iX5 tyX5_ok nmX5 (by decide) wd_175 (Or.inr ⟨_, rfl⟩) (Or.inr ⟨rfl, rfl, rfl⟩)) rfl
    (sb_cons (pc2 := 41) (sx_aload_n (show decode cX5_init 40 = .ok (.aload_n 0, 1) by decide +kernel) rfl) rfl
    (sb_cons (pc2 := 42) (sx_iconst (show decode cX5_init 41 = .ok (.iconst 0, 1) by decide +kernel) (by decide)) rfl
    (sb_cons (pc2 := 45) (sx_puti (show decode cX5_init 42 = .ok (.putfield 29, 3) by decide +kernel) rfl iX5 tyX5_ok nmX5 (by decide) wd_176 rfl (Or.inl rfl)) rfl
    (sb_cons (pc2 := 46) (sx_aload_n (show decode cX5_init 45 = .ok (.aload_n 0, 1) by decide +kernel) rfl) rfl
    (sb_cons (pc2 := 47) (sx_iconst (show decode cX5_init 46 = .ok (.iconst 0, 1) by decide +kernel) (by decide)) rfl
    (sb_cons (pc2 := 50) (sx_puti (show decode cX5_init 47 = .ok (.putfield 32, 3) by decide +kernel) rfl iX5 tyX5_ok nmX5 (by decide) wd_177 rfl (Or.inl rfl)) rfl
    (sb_cons (pc2 := 51) (sx_aload_n (show decode cX5_init 50 = .ok (.aload_n 0, 1) by decide +kernel) rfl) rfl
    (sb_cons (pc2 := 52) (sx_iconst (show decode cX5_init 51 = .ok (.iconst 0, 1) by decide +kernel) (by decide)) rfl
    (sb_cons (pc2 := 55) (sx_puti (show decode cX5_init 52 = .ok (.putfield 35, 3) by decide +kernel) rfl iX5 tyX5_ok nmX5 (by decide) wd_178 rfl (Or.inl rfl)) rfl
    (sb_cons (pc2 := 56) (sx_aload_n (show decode cX5_init 55 = .ok (.aload_n 0, 1) by decide +kernel) rfl) rfl
    (sb_cons (pc2 := 57) (sx_iconst (show decode cX5_init 56 = .ok (.iconst 0, 1) by decide +kernel) (by decide)) rfl
    (sb_cons (pc2 := 60) (sx_puti (show decode cX5_init 57 = .ok (.putfield 38, 3) by decide +kernel) rfl iX5 tyX5_ok nmX5 (by decide) wd_179 rfl (Or.inl rfl)) rfl
    (sb_cons (pc2 := 61) (sx_retv (show decode cX5_init 60 = .ok (.return_, 1) by decide +kernel) rfl) rfl sb_nil))))))))))))))))))))))))))))))))
  ms_nil)
def kX5_append (X : px_X) : px_B := [(0, [], [px_iload 1, px_push (.int 1), px_if2 (fun x y => decide (x < y)) 11, px_iload 1, px_push (.int 8), px_if2 (fun x y => decide (x ≤ y)) 14], 11),
  (11, [false, false, false, false, false], [px_push (.int (-2)), px_reti], 14),
  (14, [true, true, true, false, false], [px_aload 0, px_getf 5 2, px_iload 1, (px_i2 fun x y => x + y), px_push (.int 160), px_if2 (fun x y => decide (x ≤ y)) 29, px_push (.int (-4)), px_reti], 29),
  (29, [true, true, true, false, false], [px_push (.int 0), px_istore 4], 32),
  (32, [true, true, true, false, true], [px_iload 4, px_iload 1, px_if2 (fun x y => decide (y ≤ x)) 75, px_aload 0, px_getf 5 3, px_aload 0, px_getf 5 2, px_lload 2, px_push (.int 8), px_iload 4, (px_i2 fun x y => x * y), (px_lsh fun x y => (x.toUInt64 >>> (y.toInt64.toUInt64 &&& Int64.toUInt64 63)).toInt64), px_push (.long 255), (px_l2 fun x y => x &&& y), px_l2i, px_iast 0, px_aload 0, px_dup, px_getf 5 2, px_push (.int 1), (px_i2 fun x y => x + y), px_puti 5 2, px_iinc 4 1, px_goto 32], 75),
  (75, [true, false, false, false, false], [px_aload 0, px_getf 5 2, px_reti], 80)]
set_option maxRecDepth 100000 in
set_option maxHeartbeats 8000000 in
theorem sX5_append (d : Nat) (X : px_X) : px_MS d X YX5_append (kX5_append X) :=
  (ms_cons
  (sb_cons (pc2 := 1) (sx_iload_n (show decode cX5_append 0 = .ok (.iload_n 1, 1) by decide +kernel) rfl) rfl
    (sb_cons (pc2 := 2) (sx_iconst (show decode cX5_append 1 = .ok (.iconst 1, 1) by decide +kernel) (by decide)) rfl
    (sb_cons (pc2 := 5) (sx_icmp_lt (show decode cX5_append 2 = .ok (.if_icmp .lt 9, 3) by decide +kernel) (by decide)) rfl
    (sb_cons (pc2 := 6) (sx_iload_n (show decode cX5_append 5 = .ok (.iload_n 1, 1) by decide +kernel) rfl) rfl
    (sb_cons (pc2 := 8) (sx_bipush (show decode cX5_append 6 = .ok (.bipush 8, 2) by decide +kernel) (by decide)) rfl
    (sb_cons (pc2 := 11) (sx_icmp_le (show decode cX5_append 8 = .ok (.if_icmp .le 6, 3) by decide +kernel) (by decide)) rfl sb_nil))))))
  (ms_cons
  (sb_cons (pc2 := 13) (sx_bipush (show decode cX5_append 11 = .ok (.bipush (-2), 2) by decide +kernel) (by decide)) rfl
    (sb_cons (pc2 := 14) (sx_reti (show decode cX5_append 13 = .ok (.ireturn, 1) by decide +kernel) rfl) rfl sb_nil))
  (ms_cons
  (sb_cons (pc2 := 15) (sx_aload_n (show decode cX5_append 14 = .ok (.aload_n 0, 1) by decide +kernel) rfl) rfl
    (sb_cons (pc2 := 18) (sx_getf (show decode cX5_append 15 = .ok (.getfield 21, 3) by decide +kernel) rfl iX5 (by decide) wd_174) rfl
    (sb_cons (pc2 := 19) (sx_iload_n (show decode cX5_append 18 = .ok (.iload_n 1, 1) by decide +kernel) rfl) rfl
    (sb_cons (pc2 := 20) (sx_iadd (show decode cX5_append 19 = .ok (.iadd, 1) by decide +kernel)) rfl
    (sb_cons (pc2 := 23) (sx_sipush (show decode cX5_append 20 = .ok (.sipush 160, 3) by decide +kernel) (by decide)) rfl
    (sb_cons (pc2 := 26) (sx_icmp_le (show decode cX5_append 23 = .ok (.if_icmp .le 6, 3) by decide +kernel) (by decide)) rfl
    (sb_cons (pc2 := 28) (sx_bipush (show decode cX5_append 26 = .ok (.bipush (-4), 2) by decide +kernel) (by decide)) rfl
    (sb_cons (pc2 := 29) (sx_reti (show decode cX5_append 28 = .ok (.ireturn, 1) by decide +kernel) rfl) rfl sb_nil))))))))
  (ms_cons
  (sb_cons (pc2 := 30) (sx_iconst (show decode cX5_append 29 = .ok (.iconst 0, 1) by decide +kernel) (by decide)) rfl
    (sb_cons (pc2 := 32) (sx_istore (show decode cX5_append 30 = .ok (.istore 4, 2) by decide +kernel)) rfl sb_nil))
  (ms_cons
  (sb_cons (pc2 := 34) (sx_iload (show decode cX5_append 32 = .ok (.iload 4, 2) by decide +kernel)) rfl
    (sb_cons (pc2 := 35) (sx_iload_n (show decode cX5_append 34 = .ok (.iload_n 1, 1) by decide +kernel) rfl) rfl
    (sb_cons (pc2 := 38) (sx_icmp_ge (show decode cX5_append 35 = .ok (.if_icmp .ge 40, 3) by decide +kernel) (by decide)) rfl
    (sb_cons (pc2 := 39) (sx_aload_n (show decode cX5_append 38 = .ok (.aload_n 0, 1) by decide +kernel) rfl) rfl
    (sb_cons (pc2 := 42) (sx_getf (show decode cX5_append 39 = .ok (.getfield 25, 3) by decide +kernel) rfl iX5 (by decide) wd_175) rfl
    (sb_cons (pc2 := 43) (sx_aload_n (show decode cX5_append 42 = .ok (.aload_n 0, 1) by decide +kernel) rfl) rfl
    (sb_cons (pc2 := 46) (sx_getf (show decode cX5_append 43 = .ok (.getfield 21, 3) by decide +kernel) rfl iX5 (by decide) wd_174) rfl
    (sb_cons (pc2 := 47) (sx_lload_n (show decode cX5_append 46 = .ok (.lload_n 2, 1) by decide +kernel) rfl) rfl
    (sb_cons (pc2 := 49) (sx_bipush (show decode cX5_append 47 = .ok (.bipush 8, 2) by decide +kernel) (by decide)) rfl
    (sb_cons (pc2 := 51) (sx_iload (show decode cX5_append 49 = .ok (.iload 4, 2) by decide +kernel)) rfl
    (sb_cons (pc2 := 52) (sx_imul (show decode cX5_append 51 = .ok (.imul, 1) by decide +kernel)) rfl
    (sb_cons (pc2 := 53) (sx_lushr (show decode cX5_append 52 = .ok (.lushr, 1) by decide +kernel)) rfl
    (sb_cons (pc2 := 56) (sx_ldc2 (show decode cX5_append 53 = .ok (.ldc2_w 41, 3) by decide +kernel) wd_180) rfl
    (sb_cons (pc2 := 57) (sx_land (show decode cX5_append 56 = .ok (.land, 1) by decide +kernel)) rfl
    (sb_cons (pc2 := 58) (sx_l2i (show decode cX5_append 57 = .ok (.l2i, 1) by decide +kernel)) rfl
    (sb_cons (pc2 := 59) (sx_iast (show decode cX5_append 58 = .ok (.iastore, 1) by decide +kernel)) rfl
    (sb_cons (pc2 := 60) (sx_aload_n (show decode cX5_append 59 = .ok (.aload_n 0, 1) by decide +kernel) rfl) rfl
    (sb_cons (pc2 := 61) (sx_dup (show decode cX5_append 60 = .ok (.dup, 1) by decide +kernel)) rfl
    (sb_cons (pc2 := 64) (sx_getf (show decode cX5_append 61 = .ok (.getfield 21, 3) by decide +kernel) rfl iX5 (by decide) wd_174) rfl
    (sb_cons (pc2 := 65) (sx_iconst (show decode cX5_append 64 = .ok (.iconst 1, 1) by decide +kernel) (by decide)) rfl
    (sb_cons (pc2 := 66) (sx_iadd (show decode cX5_append 65 = .ok (.iadd, 1) by decide +kernel)) rfl
    (sb_cons (pc2 := 69) (sx_puti (show decode cX5_append 66 = .ok (.putfield 21, 3) by decide +kernel) rfl iX5 tyX5_ok nmX5 (by decide) wd_174 rfl (Or.inl rfl)) rfl
    (sb_cons (pc2 := 72) (sx_iinc (show decode cX5_append 69 = .ok (.iinc 4 1, 3) by decide +kernel) (by decide)) rfl
    (sb_cons (pc2 := 75) (px_snd_goto (show decode cX5_append 72 = .ok (.goto (-40), 3) by decide +kernel) (by decide)) rfl sb_nil))))))))))))))))))))))))
  (ms_cons
  (sb_cons (pc2 := 76) (sx_aload_n (show decode cX5_append 75 = .ok (.aload_n 0, 1) by decide +kernel) rfl) rfl
    (sb_cons (pc2 := 79) (sx_getf (show decode cX5_append 76 = .ok (.getfield 21, 3) by decide +kernel) rfl iX5 (by decide) wd_174) rfl
    (sb_cons (pc2 := 80) (sx_reti (show decode cX5_append 79 = .ok (.ireturn, 1) by decide +kernel) rfl) rfl sb_nil)))
  ms_nil))))))
def kX5_readAll (X : px_X) : px_B := [(0, [], [px_aload 0, px_push (.int 0), px_puti 5 5, px_aload 0, px_getf 5 1, px_cV X 39 1 4, px_aload 0, px_cV X 61 1 5, px_aload 0, px_cV X 51 1 5, px_istore 1, px_aload 0, px_push (.int 0), px_puti 5 2, px_iload 1, px_if1 (fun x => decide (¬ x = 0)) 38, px_push (.int (-100)), px_aload 0, px_getf 5 4, (px_i2 fun x y => x - y), px_reti], 38),
  (38, [true, false, false], [px_aload 0, px_getf 5 0, px_astore 2, px_aload 0, px_aload 0, px_getf 5 1, px_putr 5 0, px_aload 0, px_aload 2, px_putr 5 1, px_aload 0, px_getf 5 0, px_getf 4 0, px_reti], 64)]
set_option maxRecDepth 100000 in
set_option maxHeartbeats 8000000 in
theorem sX5_readAll (d : Nat) (X : px_X) : px_MS d X YX5_readAll (kX5_readAll X) :=
  (ms_cons
  (sb_cons (pc2 := 1) (sx_aload_n (show decode cX5_readAll 0 = .ok (.aload_n 0, 1) by decide +kernel) rfl) rfl
    (sb_cons (pc2 := 2) (sx_iconst (show decode cX5_readAll 1 = .ok (.iconst 0, 1) by decide +kernel) (by decide)) rfl
    (sb_cons (pc2 := 5) (sx_puti (show decode cX5_readAll 2 = .ok (.putfield 32, 3) by decide +kernel) rfl iX5 tyX5_ok nmX5 (by decide) wd_177 rfl (Or.inl rfl)) rfl
    (sb_cons (pc2 := 6) (sx_aload_n (show decode cX5_readAll 5 = .ok (.aload_n 0, 1) by decide +kernel) rfl) rfl
    (sb_cons (pc2 := 9) (sx_getf (show decode cX5_readAll 6 = .ok (.getfield 18, 3) by decide +kernel) rfl iX5 (by decide) wd_173) rfl
    (sb_cons (pc2 := 12) (sx_cV (Y' := YX4_clear) (q := (RX4, TX4, 6)) rfl (show decode cX5_readAll 9 = .ok (.invokevirtual 43, 3) by decide +kernel) rfl rfl (px_w4 wd_182 wd_183 wd_184 wd_143) wd_181 ⟨by decide, by decide, by decide +kernel⟩ (by decide)) rfl
    (sb_cons (pc2 := 13) (sx_aload_n (show decode cX5_readAll 12 = .ok (.aload_n 0, 1) by decide +kernel) rfl) rfl
    (sb_cons (pc2 := 16) (sx_cV (Y' := YX5_next) (q := (RX5, TX5, 8)) rfl (show decode cX5_readAll 13 = .ok (.invokevirtual 46, 3) by decide +kernel) rfl rfl (px_w4 wd_186 wd_187 wd_188 wd_189) wd_185 ⟨by decide, by decide, by decide +kernel⟩ (by decide)) rfl
    (sb_cons (pc2 := 17) (sx_aload_n (show decode cX5_readAll 16 = .ok (.aload_n 0, 1) by decide +kernel) rfl) rfl
    (sb_cons (pc2 := 20) (sx_cV (Y' := YX5_readBars) (q := (RX5, TX5, 8)) rfl (show decode cX5_readAll 17 = .ok (.invokevirtual 49, 3) by decide +kernel) rfl rfl (px_w4 wd_191 wd_192 wd_193 wd_189) wd_190 ⟨by decide, by decide, by decide +kernel⟩ (by decide)) rfl
    (sb_cons (pc2 := 21) (sx_istore_n (show decode cX5_readAll 20 = .ok (.istore_n 1, 1) by decide +kernel) rfl) rfl
    (sb_cons (pc2 := 22) (sx_aload_n (show decode cX5_readAll 21 = .ok (.aload_n 0, 1) by decide +kernel) rfl) rfl
    (sb_cons (pc2 := 23) (sx_iconst (show decode cX5_readAll 22 = .ok (.iconst 0, 1) by decide +kernel) (by decide)) rfl
    (sb_cons (pc2 := 26) (sx_puti (show decode cX5_readAll 23 = .ok (.putfield 21, 3) by decide +kernel) rfl iX5 tyX5_ok nmX5 (by decide) wd_174 rfl (Or.inl rfl)) rfl
    (sb_cons (pc2 := 27) (sx_iload_n (show decode cX5_readAll 26 = .ok (.iload_n 1, 1) by decide +kernel) rfl) rfl
    (sb_cons (pc2 := 30) (sx_if_ne (show decode cX5_readAll 27 = .ok (.ifCond .ne 11, 3) by decide +kernel) (by decide)) rfl
    (sb_cons (pc2 := 32) (sx_bipush (show decode cX5_readAll 30 = .ok (.bipush (-100), 2) by decide +kernel) (by decide)) rfl
    (sb_cons (pc2 := 33) (sx_aload_n (show decode cX5_readAll 32 = .ok (.aload_n 0, 1) by decide +kernel) rfl) rfl
    (sb_cons (pc2 := 36) (sx_getf (show decode cX5_readAll 33 = .ok (.getfield 29, 3) by decide +kernel) rfl iX5 (by decide) wd_176) rfl
    (sb_cons (pc2 := 37) (sx_isub (show decode cX5_readAll 36 = .ok (.isub, 1) by decide +kernel)) rfl
    (sb_cons (pc2 := 38) (sx_reti (show decode cX5_readAll 37 = .ok (.ireturn, 1) by decide +kernel) rfl) rfl sb_nil)))))))))))))))))))))
  (ms_cons
  (sb_cons (pc2 := 39) (sx_aload_n (show decode cX5_readAll 38 = .ok (.aload_n 0, 1) by decide +kernel) rfl) rfl
    (sb_cons (pc2 := 42) (sx_getf (show decode cX5_readAll 39 = .ok (.getfield 12, 3) by decide +kernel) rfl iX5 (by decide) wd_172) rfl
    (sb_cons (pc2 := 43) (sx_astore_n (show decode cX5_readAll 42 = .ok (.astore_n 2, 1) by decide +kernel) rfl) rfl
    (sb_cons (pc2 := 44) (sx_aload_n (show decode cX5_readAll 43 = .ok (.aload_n 0, 1) by decide +kernel) rfl) rfl
    (sb_cons (pc2 := 45) (sx_aload_n (show decode cX5_readAll 44 = .ok (.aload_n 0, 1) by decide +kernel) rfl) rfl
    (sb_cons (pc2 := 48) (sx_getf (show decode cX5_readAll 45 = .ok (.getfield 18, 3) by decide +kernel) rfl iX5 (by decide) wd_173) rfl
    (sb_cons (pc2 := 51) (sx_putr (show decode cX5_readAll 48 = .ok (.putfield 12, 3) by decide +kernel) rfl iX5 tyX5_ok nmX5 (by decide) wd_172 (Or.inl ⟨_, rfl⟩) (Or.inl rfl)) rfl
    (sb_cons (pc2 := 52) (sx_aload_n (show decode cX5_readAll 51 = .ok (.aload_n 0, 1) by decide +kernel) rfl) rfl
    (sb_cons (pc2 := 53) (sx_aload_n (show decode cX5_readAll 52 = .ok (.aload_n 2, 1) by decide +kernel) rfl) rfl
    (sb_cons (pc2 := 56) (sx_putr (show decode cX5_readAll 53 = .ok (.putfield 18, 3) by decide +kernel) rfl iX5 tyX5_ok nmX5 (by decide) wd_173 (Or.inl ⟨_, rfl⟩) (Or.inl rfl)) rfl
    (sb_cons (pc2 := 57) (sx_aload_n (show decode cX5_readAll 56 = .ok (.aload_n 0, 1) by decide +kernel) rfl) rfl
    (sb_cons (pc2 := 60) (sx_getf (show decode cX5_readAll 57 = .ok (.getfield 12, 3) by decide +kernel) rfl iX5 (by decide) wd_172) rfl
    (sb_cons (pc2 := 63) (sx_getf (show decode cX5_readAll 60 = .ok (.getfield 53, 3) by decide +kernel) rfl iX4 (by decide) wd_194) rfl
    (sb_cons (pc2 := 64) (sx_reti (show decode cX5_readAll 63 = .ok (.ireturn, 1) by decide +kernel) rfl) rfl sb_nil))))))))))))))
  ms_nil))
def kX5_readBars (X : px_X) : px_B := [(0, [], [px_push (.int 0), px_istore 1], 2),
  (2, [true, true], [px_iload 1, px_push (.int 6), px_if2 (fun x y => decide (y ≤ x)) 57, px_aload 0, px_getf 5 6, px_push (.int 10), px_if2 (fun x y => decide (¬ x = y)) 57, px_aload 0, px_cV X 61 1 5, px_aload 0, px_push (.int 0), px_cV X 52 2 5, px_if1 (fun x => decide (x = 0)) 38, px_aload 0, px_getf 5 6, px_push (.int 59), px_if2 (fun x y => decide (x = y)) 40], 38),
  (38, [false, false], [px_push (.int 0), px_retz], 40),
  (40, [true, true], [px_aload 0, px_getf 5 1, px_cV X 41 1 4, px_aload 0, px_cV X 61 1 5, px_iinc 1 1, px_goto 2], 57),
  (57, [true, false], [px_aload 0, px_getf 5 6, px_if1 (fun x => decide (¬ x = 0)) 68, px_push (.int 1), px_goto 69], 68),
  (68, [false, false], [px_push (.int 0)], 69),
  (69, [false, false], [px_retz], 70)]
set_option maxRecDepth 100000 in
set_option maxHeartbeats 8000000 in
theorem sX5_readBars (d : Nat) (X : px_X) : px_MS d X YX5_readBars (kX5_readBars X) :=
  (ms_cons
  (sb_cons (pc2 := 1) (sx_iconst (show decode cX5_readBars 0 = .ok (.iconst 0, 1) by decide +kernel) (by decide)) rfl
    (sb_cons (pc2 := 2) (sx_istore_n (show decode cX5_readBars 1 = .ok (.istore_n 1, 1) by decide +kernel) rfl) rfl sb_nil))
  (ms_cons
  (sb_cons (pc2 := 3) (sx_iload_n (show decode cX5_readBars 2 = .ok (.iload_n 1, 1) by decide +kernel) rfl) rfl
    (sb_cons (pc2 := 5) (sx_bipush (show decode cX5_readBars 3 = .ok (.bipush 6, 2) by decide +kernel) (by decide)) rfl
    (sb_cons (pc2 := 8) (sx_icmp_ge (show decode cX5_readBars 5 = .ok (.if_icmp .ge 52, 3) by decide +kernel) (by decide)) rfl
    (sb_cons (pc2 := 9) (sx_aload_n (show decode cX5_readBars 8 = .ok (.aload_n 0, 1) by decide +kernel) rfl) rfl
    (sb_cons (pc2 := 12) (sx_getf (show decode cX5_readBars 9 = .ok (.getfield 35, 3) by decide +kernel) rfl iX5 (by decide) wd_178) rfl
    (sb_cons (pc2 := 14) (sx_bipush (show decode cX5_readBars 12 = .ok (.bipush 10, 2) by decide +kernel) (by decide)) rfl
    (sb_cons (pc2 := 17) (sx_icmp_ne (show decode cX5_readBars 14 = .ok (.if_icmp .ne 43, 3) by decide +kernel) (by decide)) rfl
    (sb_cons (pc2 := 18) (sx_aload_n (show decode cX5_readBars 17 = .ok (.aload_n 0, 1) by decide +kernel) rfl) rfl
    (sb_cons (pc2 := 21) (sx_cV (Y' := YX5_next) (q := (RX5, TX5, 8)) rfl (show decode cX5_readBars 18 = .ok (.invokevirtual 46, 3) by decide +kernel) rfl rfl (px_w4 wd_186 wd_187 wd_188 wd_189) wd_185 ⟨by decide, by decide, by decide +kernel⟩ (by decide)) rfl
    (sb_cons (pc2 := 22) (sx_aload_n (show decode cX5_readBars 21 = .ok (.aload_n 0, 1) by decide +kernel) rfl) rfl
    (sb_cons (pc2 := 23) (sx_iconst (show decode cX5_readBars 22 = .ok (.iconst 0, 1) by decide +kernel) (by decide)) rfl
    (sb_cons (pc2 := 26) (sx_cV (Y' := YX5_readOr) (q := (RX5, TX5, 8)) rfl (show decode cX5_readBars 23 = .ok (.invokevirtual 56, 3) by decide +kernel) rfl rfl (px_w4 wd_196 wd_197 wd_198 wd_189) wd_195 ⟨by decide, by decide, by decide +kernel⟩ (by decide)) rfl
    (sb_cons (pc2 := 29) (sx_if_eq (show decode cX5_readBars 26 = .ok (.ifCond .eq 12, 3) by decide +kernel) (by decide)) rfl
    (sb_cons (pc2 := 30) (sx_aload_n (show decode cX5_readBars 29 = .ok (.aload_n 0, 1) by decide +kernel) rfl) rfl
    (sb_cons (pc2 := 33) (sx_getf (show decode cX5_readBars 30 = .ok (.getfield 35, 3) by decide +kernel) rfl iX5 (by decide) wd_178) rfl
    (sb_cons (pc2 := 35) (sx_bipush (show decode cX5_readBars 33 = .ok (.bipush 59, 2) by decide +kernel) (by decide)) rfl
    (sb_cons (pc2 := 38) (sx_icmp_eq (show decode cX5_readBars 35 = .ok (.if_icmp .eq 5, 3) by decide +kernel) (by decide)) rfl sb_nil)))))))))))))))))
  (ms_cons
  (sb_cons (pc2 := 39) (sx_iconst (show decode cX5_readBars 38 = .ok (.iconst 0, 1) by decide +kernel) (by decide)) rfl
    (sb_cons (pc2 := 40) (sx_retz (show decode cX5_readBars 39 = .ok (.ireturn, 1) by decide +kernel) rfl) rfl sb_nil))
  (ms_cons
  (sb_cons (pc2 := 41) (sx_aload_n (show decode cX5_readBars 40 = .ok (.aload_n 0, 1) by decide +kernel) rfl) rfl
    (sb_cons (pc2 := 44) (sx_getf (show decode cX5_readBars 41 = .ok (.getfield 18, 3) by decide +kernel) rfl iX5 (by decide) wd_173) rfl
    (sb_cons (pc2 := 47) (sx_cV (Y' := YX4_endBar) (q := (RX4, TX4, 6)) rfl (show decode cX5_readBars 44 = .ok (.invokevirtual 60, 3) by decide +kernel) rfl rfl (px_w4 wd_200 wd_201 wd_202 wd_143) wd_199 ⟨by decide, by decide, by decide +kernel⟩ (by decide)) rfl
    (sb_cons (pc2 := 48) (sx_aload_n (show decode cX5_readBars 47 = .ok (.aload_n 0, 1) by decide +kernel) rfl) rfl
    (sb_cons (pc2 := 51) (sx_cV (Y' := YX5_next) (q := (RX5, TX5, 8)) rfl (show decode cX5_readBars 48 = .ok (.invokevirtual 46, 3) by decide +kernel) rfl rfl (px_w4 wd_186 wd_187 wd_188 wd_189) wd_185 ⟨by decide, by decide, by decide +kernel⟩ (by decide)) rfl
    (sb_cons (pc2 := 54) (sx_iinc (show decode cX5_readBars 51 = .ok (.iinc 1 1, 3) by decide +kernel) (by decide)) rfl
    (sb_cons (pc2 := 57) (px_snd_goto (show decode cX5_readBars 54 = .ok (.goto (-52), 3) by decide +kernel) (by decide)) rfl sb_nil)))))))
  (ms_cons
  (sb_cons (pc2 := 58) (sx_aload_n (show decode cX5_readBars 57 = .ok (.aload_n 0, 1) by decide +kernel) rfl) rfl
    (sb_cons (pc2 := 61) (sx_getf (show decode cX5_readBars 58 = .ok (.getfield 35, 3) by decide +kernel) rfl iX5 (by decide) wd_178) rfl
    (sb_cons (pc2 := 64) (sx_if_ne (show decode cX5_readBars 61 = .ok (.ifCond .ne 7, 3) by decide +kernel) (by decide)) rfl
    (sb_cons (pc2 := 65) (sx_iconst (show decode cX5_readBars 64 = .ok (.iconst 1, 1) by decide +kernel) (by decide)) rfl
    (sb_cons (pc2 := 68) (px_snd_goto (show decode cX5_readBars 65 = .ok (.goto 4, 3) by decide +kernel) (by decide)) rfl sb_nil)))))
  (ms_cons
  (sb_cons (pc2 := 69) (sx_iconst (show decode cX5_readBars 68 = .ok (.iconst 0, 1) by decide +kernel) (by decide)) rfl sb_nil)
  (ms_cons
  (sb_cons (pc2 := 70) (sx_retz (show decode cX5_readBars 69 = .ok (.ireturn, 1) by decide +kernel) rfl) rfl sb_nil)
  ms_nil)))))))
def kX5_readOr (X : px_X) : px_B := [(0, [], [px_aload 0, px_iload 1, px_cV X 53 2 5, px_istore 2, px_push (.int 0), px_istore 3], 8),
  (8, [true, true, true, true], [px_iload 3, px_push (.int 160), px_if2 (fun x y => decide (y ≤ x)) 54, px_iload 2, px_if1 (fun x => decide (x = 0)) 54, px_aload 0, px_getf 5 6, px_push (.int 11), px_if2 (fun x y => decide (¬ x = y)) 54, px_aload 0, px_cV X 61 1 5, px_aload 0, px_iload 1, px_cV X 53 2 5, px_istore 2, px_aload 0, px_getf 5 1, px_push (.int 10), px_push (.int 0), px_cV X 40 3 4, px_iinc 3 1, px_goto 8], 54),
  (54, [false, false, true, false], [px_iload 2, px_retz], 56)]
set_option maxRecDepth 100000 in
set_option maxHeartbeats 8000000 in
theorem sX5_readOr (d : Nat) (X : px_X) : px_MS d X YX5_readOr (kX5_readOr X) :=
  (ms_cons
  (sb_cons (pc2 := 1) (sx_aload_n (show decode cX5_readOr 0 = .ok (.aload_n 0, 1) by decide +kernel) rfl) rfl
    (sb_cons (pc2 := 2) (sx_iload_n (show decode cX5_readOr 1 = .ok (.iload_n 1, 1) by decide +kernel) rfl) rfl
    (sb_cons (pc2 := 5) (sx_cV (Y' := YX5_readAnd) (q := (RX5, TX5, 8)) rfl (show decode cX5_readOr 2 = .ok (.invokevirtual 63, 3) by decide +kernel) rfl rfl (px_w4 wd_204 wd_205 wd_206 wd_189) wd_203 ⟨by decide, by decide, by decide +kernel⟩ (by decide)) rfl
    (sb_cons (pc2 := 6) (sx_istore_n (show decode cX5_readOr 5 = .ok (.istore_n 2, 1) by decide +kernel) rfl) rfl
    (sb_cons (pc2 := 7) (sx_iconst (show decode cX5_readOr 6 = .ok (.iconst 0, 1) by decide +kernel) (by decide)) rfl
    (sb_cons (pc2 := 8) (sx_istore_n (show decode cX5_readOr 7 = .ok (.istore_n 3, 1) by decide +kernel) rfl) rfl sb_nil))))))
  (ms_cons
  (sb_cons (pc2 := 9) (sx_iload_n (show decode cX5_readOr 8 = .ok (.iload_n 3, 1) by decide +kernel) rfl) rfl
    (sb_cons (pc2 := 12) (sx_sipush (show decode cX5_readOr 9 = .ok (.sipush 160, 3) by decide +kernel) (by decide)) rfl
    (sb_cons (pc2 := 15) (sx_icmp_ge (show decode cX5_readOr 12 = .ok (.if_icmp .ge 42, 3) by decide +kernel) (by decide)) rfl
    (sb_cons (pc2 := 16) (sx_iload_n (show decode cX5_readOr 15 = .ok (.iload_n 2, 1) by decide +kernel) rfl) rfl
    (sb_cons (pc2 := 19) (sx_if_eq (show decode cX5_readOr 16 = .ok (.ifCond .eq 38, 3) by decide +kernel) (by decide)) rfl
    (sb_cons (pc2 := 20) (sx_aload_n (show decode cX5_readOr 19 = .ok (.aload_n 0, 1) by decide +kernel) rfl) rfl
    (sb_cons (pc2 := 23) (sx_getf (show decode cX5_readOr 20 = .ok (.getfield 35, 3) by decide +kernel) rfl iX5 (by decide) wd_178) rfl
    (sb_cons (pc2 := 25) (sx_bipush (show decode cX5_readOr 23 = .ok (.bipush 11, 2) by decide +kernel) (by decide)) rfl
    (sb_cons (pc2 := 28) (sx_icmp_ne (show decode cX5_readOr 25 = .ok (.if_icmp .ne 29, 3) by decide +kernel) (by decide)) rfl
    (sb_cons (pc2 := 29) (sx_aload_n (show decode cX5_readOr 28 = .ok (.aload_n 0, 1) by decide +kernel) rfl) rfl
    (sb_cons (pc2 := 32) (sx_cV (Y' := YX5_next) (q := (RX5, TX5, 8)) rfl (show decode cX5_readOr 29 = .ok (.invokevirtual 46, 3) by decide +kernel) rfl rfl (px_w4 wd_186 wd_187 wd_188 wd_189) wd_185 ⟨by decide, by decide, by decide +kernel⟩ (by decide)) rfl
    (sb_cons (pc2 := 33) (sx_aload_n (show decode cX5_readOr 32 = .ok (.aload_n 0, 1) by decide +kernel) rfl) rfl
    (sb_cons (pc2 := 34) (sx_iload_n (show decode cX5_readOr 33 = .ok (.iload_n 1, 1) by decide +kernel) rfl) rfl
    (sb_cons (pc2 := 37) (sx_cV (Y' := YX5_readAnd) (q := (RX5, TX5, 8)) rfl (show decode cX5_readOr 34 = .ok (.invokevirtual 63, 3) by decide +kernel) rfl rfl (px_w4 wd_204 wd_205 wd_206 wd_189) wd_203 ⟨by decide, by decide, by decide +kernel⟩ (by decide)) rfl
    (sb_cons (pc2 := 38) (sx_istore_n (show decode cX5_readOr 37 = .ok (.istore_n 2, 1) by decide +kernel) rfl) rfl
    (sb_cons (pc2 := 39) (sx_aload_n (show decode cX5_readOr 38 = .ok (.aload_n 0, 1) by decide +kernel) rfl) rfl
    (sb_cons (pc2 := 42) (sx_getf (show decode cX5_readOr 39 = .ok (.getfield 18, 3) by decide +kernel) rfl iX5 (by decide) wd_173) rfl
    (sb_cons (pc2 := 44) (sx_bipush (show decode cX5_readOr 42 = .ok (.bipush 10, 2) by decide +kernel) (by decide)) rfl
    (sb_cons (pc2 := 45) (sx_iconst (show decode cX5_readOr 44 = .ok (.iconst 0, 1) by decide +kernel) (by decide)) rfl
    (sb_cons (pc2 := 48) (sx_cV (Y' := YX4_add) (q := (RX4, TX4, 6)) rfl (show decode cX5_readOr 45 = .ok (.invokevirtual 66, 3) by decide +kernel) rfl rfl (px_w4 wd_208 wd_209 wd_210 wd_143) wd_207 ⟨by decide, by decide, by decide +kernel⟩ (by decide)) rfl
    (sb_cons (pc2 := 51) (sx_iinc (show decode cX5_readOr 48 = .ok (.iinc 3 1, 3) by decide +kernel) (by decide)) rfl
    (sb_cons (pc2 := 54) (px_snd_goto (show decode cX5_readOr 51 = .ok (.goto (-43), 3) by decide +kernel) (by decide)) rfl sb_nil))))))))))))))))))))))
  (ms_cons
  (sb_cons (pc2 := 55) (sx_iload_n (show decode cX5_readOr 54 = .ok (.iload_n 2, 1) by decide +kernel) rfl) rfl
    (sb_cons (pc2 := 56) (sx_retz (show decode cX5_readOr 55 = .ok (.ireturn, 1) by decide +kernel) rfl) rfl sb_nil))
  ms_nil)))
def kX5_readAnd (X : px_X) : px_B := [(0, [], [px_aload 0, px_iload 1, px_cV X 54 2 5, px_istore 2, px_push (.int 0), px_istore 3], 8),
  (8, [true, true, true, true], [px_iload 3, px_push (.int 160), px_if2 (fun x y => decide (y ≤ x)) 54, px_iload 2, px_if1 (fun x => decide (x = 0)) 54, px_aload 0, px_getf 5 6, px_push (.int 12), px_if2 (fun x y => decide (¬ x = y)) 54, px_aload 0, px_cV X 61 1 5, px_aload 0, px_iload 1, px_cV X 54 2 5, px_istore 2, px_aload 0, px_getf 5 1, px_push (.int 9), px_push (.int 0), px_cV X 40 3 4, px_iinc 3 1, px_goto 8], 54),
  (54, [false, false, true, false], [px_iload 2, px_retz], 56)]
set_option maxRecDepth 100000 in
set_option maxHeartbeats 8000000 in
theorem sX5_readAnd (d : Nat) (X : px_X) : px_MS d X YX5_readAnd (kX5_readAnd X) :=
  (ms_cons
  (sb_cons (pc2 := 1) (sx_aload_n (show decode cX5_readAnd 0 = .ok (.aload_n 0, 1) by decide +kernel) rfl) rfl
    (sb_cons (pc2 := 2) (sx_iload_n (show decode cX5_readAnd 1 = .ok (.iload_n 1, 1) by decide +kernel) rfl) rfl
    (sb_cons (pc2 := 5) (sx_cV (Y' := YX5_readNot) (q := (RX5, TX5, 8)) rfl (show decode cX5_readAnd 2 = .ok (.invokevirtual 70, 3) by decide +kernel) rfl rfl (px_w4 wd_212 wd_213 wd_214 wd_189) wd_211 ⟨by decide, by decide, by decide +kernel⟩ (by decide)) rfl
    (sb_cons (pc2 := 6) (sx_istore_n (show decode cX5_readAnd 5 = .ok (.istore_n 2, 1) by decide +kernel) rfl) rfl
    (sb_cons (pc2 := 7) (sx_iconst (show decode cX5_readAnd 6 = .ok (.iconst 0, 1) by decide +kernel) (by decide)) rfl
    (sb_cons (pc2 := 8) (sx_istore_n (show decode cX5_readAnd 7 = .ok (.istore_n 3, 1) by decide +kernel) rfl) rfl sb_nil))))))
  (ms_cons
  (sb_cons (pc2 := 9) (sx_iload_n (show decode cX5_readAnd 8 = .ok (.iload_n 3, 1) by decide +kernel) rfl) rfl
    (sb_cons (pc2 := 12) (sx_sipush (show decode cX5_readAnd 9 = .ok (.sipush 160, 3) by decide +kernel) (by decide)) rfl
    (sb_cons (pc2 := 15) (sx_icmp_ge (show decode cX5_readAnd 12 = .ok (.if_icmp .ge 42, 3) by decide +kernel) (by decide)) rfl
    (sb_cons (pc2 := 16) (sx_iload_n (show decode cX5_readAnd 15 = .ok (.iload_n 2, 1) by decide +kernel) rfl) rfl
    (sb_cons (pc2 := 19) (sx_if_eq (show decode cX5_readAnd 16 = .ok (.ifCond .eq 38, 3) by decide +kernel) (by decide)) rfl
    (sb_cons (pc2 := 20) (sx_aload_n (show decode cX5_readAnd 19 = .ok (.aload_n 0, 1) by decide +kernel) rfl) rfl
    (sb_cons (pc2 := 23) (sx_getf (show decode cX5_readAnd 20 = .ok (.getfield 35, 3) by decide +kernel) rfl iX5 (by decide) wd_178) rfl
    (sb_cons (pc2 := 25) (sx_bipush (show decode cX5_readAnd 23 = .ok (.bipush 12, 2) by decide +kernel) (by decide)) rfl
    (sb_cons (pc2 := 28) (sx_icmp_ne (show decode cX5_readAnd 25 = .ok (.if_icmp .ne 29, 3) by decide +kernel) (by decide)) rfl
    (sb_cons (pc2 := 29) (sx_aload_n (show decode cX5_readAnd 28 = .ok (.aload_n 0, 1) by decide +kernel) rfl) rfl
    (sb_cons (pc2 := 32) (sx_cV (Y' := YX5_next) (q := (RX5, TX5, 8)) rfl (show decode cX5_readAnd 29 = .ok (.invokevirtual 46, 3) by decide +kernel) rfl rfl (px_w4 wd_186 wd_187 wd_188 wd_189) wd_185 ⟨by decide, by decide, by decide +kernel⟩ (by decide)) rfl
    (sb_cons (pc2 := 33) (sx_aload_n (show decode cX5_readAnd 32 = .ok (.aload_n 0, 1) by decide +kernel) rfl) rfl
    (sb_cons (pc2 := 34) (sx_iload_n (show decode cX5_readAnd 33 = .ok (.iload_n 1, 1) by decide +kernel) rfl) rfl
    (sb_cons (pc2 := 37) (sx_cV (Y' := YX5_readNot) (q := (RX5, TX5, 8)) rfl (show decode cX5_readAnd 34 = .ok (.invokevirtual 70, 3) by decide +kernel) rfl rfl (px_w4 wd_212 wd_213 wd_214 wd_189) wd_211 ⟨by decide, by decide, by decide +kernel⟩ (by decide)) rfl
    (sb_cons (pc2 := 38) (sx_istore_n (show decode cX5_readAnd 37 = .ok (.istore_n 2, 1) by decide +kernel) rfl) rfl
    (sb_cons (pc2 := 39) (sx_aload_n (show decode cX5_readAnd 38 = .ok (.aload_n 0, 1) by decide +kernel) rfl) rfl
    (sb_cons (pc2 := 42) (sx_getf (show decode cX5_readAnd 39 = .ok (.getfield 18, 3) by decide +kernel) rfl iX5 (by decide) wd_173) rfl
    (sb_cons (pc2 := 44) (sx_bipush (show decode cX5_readAnd 42 = .ok (.bipush 9, 2) by decide +kernel) (by decide)) rfl
    (sb_cons (pc2 := 45) (sx_iconst (show decode cX5_readAnd 44 = .ok (.iconst 0, 1) by decide +kernel) (by decide)) rfl
    (sb_cons (pc2 := 48) (sx_cV (Y' := YX4_add) (q := (RX4, TX4, 6)) rfl (show decode cX5_readAnd 45 = .ok (.invokevirtual 66, 3) by decide +kernel) rfl rfl (px_w4 wd_208 wd_209 wd_210 wd_143) wd_207 ⟨by decide, by decide, by decide +kernel⟩ (by decide)) rfl
    (sb_cons (pc2 := 51) (sx_iinc (show decode cX5_readAnd 48 = .ok (.iinc 3 1, 3) by decide +kernel) (by decide)) rfl
    (sb_cons (pc2 := 54) (px_snd_goto (show decode cX5_readAnd 51 = .ok (.goto (-43), 3) by decide +kernel) (by decide)) rfl sb_nil))))))))))))))))))))))
  (ms_cons
  (sb_cons (pc2 := 55) (sx_iload_n (show decode cX5_readAnd 54 = .ok (.iload_n 2, 1) by decide +kernel) rfl) rfl
    (sb_cons (pc2 := 56) (sx_retz (show decode cX5_readAnd 55 = .ok (.ireturn, 1) by decide +kernel) rfl) rfl sb_nil))
  ms_nil)))
def kX5_readNot (X : px_X) : px_B := [(0, [], [px_aload 0, px_getf 5 6, px_push (.int 13), px_if2 (fun x y => decide (x = y)) 15, px_aload 0, px_iload 1, px_cV X 55 2 5, px_retz], 15),
  (15, [true, true, false], [px_iload 1, px_push (.int 5), px_if2 (fun x y => decide (x < y)) 22, px_push (.int 0), px_retz], 22),
  (22, [true, true, false], [px_aload 0, px_cV X 61 1 5, px_aload 0, px_iload 1, px_push (.int 1), (px_i2 fun x y => x + y), px_cV X 54 2 5, px_istore 2, px_aload 0, px_getf 5 1, px_push (.int 3), px_push (.int 0), px_cV X 40 3 4, px_iload 2, px_retz], 45)]
set_option maxRecDepth 100000 in
set_option maxHeartbeats 8000000 in
theorem sX5_readNot (d : Nat) (X : px_X) : px_MS d X YX5_readNot (kX5_readNot X) :=
  (ms_cons
  (sb_cons (pc2 := 1) (sx_aload_n (show decode cX5_readNot 0 = .ok (.aload_n 0, 1) by decide +kernel) rfl) rfl
    (sb_cons (pc2 := 4) (sx_getf (show decode cX5_readNot 1 = .ok (.getfield 35, 3) by decide +kernel) rfl iX5 (by decide) wd_178) rfl
    (sb_cons (pc2 := 6) (sx_bipush (show decode cX5_readNot 4 = .ok (.bipush 13, 2) by decide +kernel) (by decide)) rfl
    (sb_cons (pc2 := 9) (sx_icmp_eq (show decode cX5_readNot 6 = .ok (.if_icmp .eq 9, 3) by decide +kernel) (by decide)) rfl
    (sb_cons (pc2 := 10) (sx_aload_n (show decode cX5_readNot 9 = .ok (.aload_n 0, 1) by decide +kernel) rfl) rfl
    (sb_cons (pc2 := 11) (sx_iload_n (show decode cX5_readNot 10 = .ok (.iload_n 1, 1) by decide +kernel) rfl) rfl
    (sb_cons (pc2 := 14) (sx_cV (Y' := YX5_readCompared) (q := (RX5, TX5, 8)) rfl (show decode cX5_readNot 11 = .ok (.invokevirtual 73, 3) by decide +kernel) rfl rfl (px_w4 wd_216 wd_217 wd_218 wd_189) wd_215 ⟨by decide, by decide, by decide +kernel⟩ (by decide)) rfl
    (sb_cons (pc2 := 15) (sx_retz (show decode cX5_readNot 14 = .ok (.ireturn, 1) by decide +kernel) rfl) rfl sb_nil))))))))
  (ms_cons
  (sb_cons (pc2 := 16) (sx_iload_n (show decode cX5_readNot 15 = .ok (.iload_n 1, 1) by decide +kernel) rfl) rfl
    (sb_cons (pc2 := 17) (sx_iconst (show decode cX5_readNot 16 = .ok (.iconst 5, 1) by decide +kernel) (by decide)) rfl
    (sb_cons (pc2 := 20) (sx_icmp_lt (show decode cX5_readNot 17 = .ok (.if_icmp .lt 5, 3) by decide +kernel) (by decide)) rfl
    (sb_cons (pc2 := 21) (sx_iconst (show decode cX5_readNot 20 = .ok (.iconst 0, 1) by decide +kernel) (by decide)) rfl
    (sb_cons (pc2 := 22) (sx_retz (show decode cX5_readNot 21 = .ok (.ireturn, 1) by decide +kernel) rfl) rfl sb_nil)))))
  (ms_cons
  (sb_cons (pc2 := 23) (sx_aload_n (show decode cX5_readNot 22 = .ok (.aload_n 0, 1) by decide +kernel) rfl) rfl
    (sb_cons (pc2 := 26) (sx_cV (Y' := YX5_next) (q := (RX5, TX5, 8)) rfl (show decode cX5_readNot 23 = .ok (.invokevirtual 46, 3) by decide +kernel) rfl rfl (px_w4 wd_186 wd_187 wd_188 wd_189) wd_185 ⟨by decide, by decide, by decide +kernel⟩ (by decide)) rfl
    (sb_cons (pc2 := 27) (sx_aload_n (show decode cX5_readNot 26 = .ok (.aload_n 0, 1) by decide +kernel) rfl) rfl
    (sb_cons (pc2 := 28) (sx_iload_n (show decode cX5_readNot 27 = .ok (.iload_n 1, 1) by decide +kernel) rfl) rfl
    (sb_cons (pc2 := 29) (sx_iconst (show decode cX5_readNot 28 = .ok (.iconst 1, 1) by decide +kernel) (by decide)) rfl
    (sb_cons (pc2 := 30) (sx_iadd (show decode cX5_readNot 29 = .ok (.iadd, 1) by decide +kernel)) rfl
    (sb_cons (pc2 := 33) (sx_cV (Y' := YX5_readNot) (q := (RX5, TX5, 8)) rfl (show decode cX5_readNot 30 = .ok (.invokevirtual 70, 3) by decide +kernel) rfl rfl (px_w4 wd_212 wd_213 wd_214 wd_189) wd_211 ⟨by decide, by decide, by decide +kernel⟩ (by decide)) rfl
    (sb_cons (pc2 := 34) (sx_istore_n (show decode cX5_readNot 33 = .ok (.istore_n 2, 1) by decide +kernel) rfl) rfl
    (sb_cons (pc2 := 35) (sx_aload_n (show decode cX5_readNot 34 = .ok (.aload_n 0, 1) by decide +kernel) rfl) rfl
    (sb_cons (pc2 := 38) (sx_getf (show decode cX5_readNot 35 = .ok (.getfield 18, 3) by decide +kernel) rfl iX5 (by decide) wd_173) rfl
    (sb_cons (pc2 := 39) (sx_iconst (show decode cX5_readNot 38 = .ok (.iconst 3, 1) by decide +kernel) (by decide)) rfl
    (sb_cons (pc2 := 40) (sx_iconst (show decode cX5_readNot 39 = .ok (.iconst 0, 1) by decide +kernel) (by decide)) rfl
    (sb_cons (pc2 := 43) (sx_cV (Y' := YX4_add) (q := (RX4, TX4, 6)) rfl (show decode cX5_readNot 40 = .ok (.invokevirtual 66, 3) by decide +kernel) rfl rfl (px_w4 wd_208 wd_209 wd_210 wd_143) wd_207 ⟨by decide, by decide, by decide +kernel⟩ (by decide)) rfl
    (sb_cons (pc2 := 44) (sx_iload_n (show decode cX5_readNot 43 = .ok (.iload_n 2, 1) by decide +kernel) rfl) rfl
    (sb_cons (pc2 := 45) (sx_retz (show decode cX5_readNot 44 = .ok (.ireturn, 1) by decide +kernel) rfl) rfl sb_nil)))))))))))))))
  ms_nil)))
def kX5_readCompared (X : px_X) : px_B := [(0, [], [px_aload 0, px_iload 1, px_cV X 56 2 5, px_if1 (fun x => decide (¬ x = 0)) 10, px_push (.int 0), px_retz], 10),
  (10, [true, true, false, false], [px_aload 0, px_getf 5 6, px_push (.int 60), px_if2 (fun x y => decide (x = y)) 30, px_aload 0, px_getf 5 6, px_push (.int 61), px_if2 (fun x y => decide (x = y)) 30, px_push (.int 1), px_retz], 30),
  (30, [true, true, false, false], [px_aload 0, px_getf 5 6, px_push (.int 60), px_if2 (fun x y => decide (¬ x = y)) 44, px_push (.int 7), px_goto 46], 44),
  (44, [true, true, false, false], [px_push (.int 8)], 46),
  (46, [true, true, false, false], [px_istore 2, px_aload 0, px_cV X 61 1 5, px_aload 0, px_iload 1, px_cV X 56 2 5, px_istore 3, px_aload 0, px_getf 5 1, px_iload 2, px_push (.int 0), px_cV X 40 3 4, px_iload 3, px_retz], 68)]
set_option maxRecDepth 100000 in
set_option maxHeartbeats 8000000 in
theorem sX5_readCompared (d : Nat) (X : px_X) : px_MS d X YX5_readCompared (kX5_readCompared X) :=
  (ms_cons
  (sb_cons (pc2 := 1) (sx_aload_n (show decode cX5_readCompared 0 = .ok (.aload_n 0, 1) by decide +kernel) rfl) rfl
    (sb_cons (pc2 := 2) (sx_iload_n (show decode cX5_readCompared 1 = .ok (.iload_n 1, 1) by decide +kernel) rfl) rfl
    (sb_cons (pc2 := 5) (sx_cV (Y' := YX5_readSum) (q := (RX5, TX5, 8)) rfl (show decode cX5_readCompared 2 = .ok (.invokevirtual 76, 3) by decide +kernel) rfl rfl (px_w4 wd_220 wd_221 wd_222 wd_189) wd_219 ⟨by decide, by decide, by decide +kernel⟩ (by decide)) rfl
    (sb_cons (pc2 := 8) (sx_if_ne (show decode cX5_readCompared 5 = .ok (.ifCond .ne 5, 3) by decide +kernel) (by decide)) rfl
    (sb_cons (pc2 := 9) (sx_iconst (show decode cX5_readCompared 8 = .ok (.iconst 0, 1) by decide +kernel) (by decide)) rfl
    (sb_cons (pc2 := 10) (sx_retz (show decode cX5_readCompared 9 = .ok (.ireturn, 1) by decide +kernel) rfl) rfl sb_nil))))))
  (ms_cons
  (sb_cons (pc2 := 11) (sx_aload_n (show decode cX5_readCompared 10 = .ok (.aload_n 0, 1) by decide +kernel) rfl) rfl
    (sb_cons (pc2 := 14) (sx_getf (show decode cX5_readCompared 11 = .ok (.getfield 35, 3) by decide +kernel) rfl iX5 (by decide) wd_178) rfl
    (sb_cons (pc2 := 16) (sx_bipush (show decode cX5_readCompared 14 = .ok (.bipush 60, 2) by decide +kernel) (by decide)) rfl
    (sb_cons (pc2 := 19) (sx_icmp_eq (show decode cX5_readCompared 16 = .ok (.if_icmp .eq 14, 3) by decide +kernel) (by decide)) rfl
    (sb_cons (pc2 := 20) (sx_aload_n (show decode cX5_readCompared 19 = .ok (.aload_n 0, 1) by decide +kernel) rfl) rfl
    (sb_cons (pc2 := 23) (sx_getf (show decode cX5_readCompared 20 = .ok (.getfield 35, 3) by decide +kernel) rfl iX5 (by decide) wd_178) rfl
    (sb_cons (pc2 := 25) (sx_bipush (show decode cX5_readCompared 23 = .ok (.bipush 61, 2) by decide +kernel) (by decide)) rfl
    (sb_cons (pc2 := 28) (sx_icmp_eq (show decode cX5_readCompared 25 = .ok (.if_icmp .eq 5, 3) by decide +kernel) (by decide)) rfl
    (sb_cons (pc2 := 29) (sx_iconst (show decode cX5_readCompared 28 = .ok (.iconst 1, 1) by decide +kernel) (by decide)) rfl
    (sb_cons (pc2 := 30) (sx_retz (show decode cX5_readCompared 29 = .ok (.ireturn, 1) by decide +kernel) rfl) rfl sb_nil))))))))))
  (ms_cons
  (sb_cons (pc2 := 31) (sx_aload_n (show decode cX5_readCompared 30 = .ok (.aload_n 0, 1) by decide +kernel) rfl) rfl
    (sb_cons (pc2 := 34) (sx_getf (show decode cX5_readCompared 31 = .ok (.getfield 35, 3) by decide +kernel) rfl iX5 (by decide) wd_178) rfl
    (sb_cons (pc2 := 36) (sx_bipush (show decode cX5_readCompared 34 = .ok (.bipush 60, 2) by decide +kernel) (by decide)) rfl
    (sb_cons (pc2 := 39) (sx_icmp_ne (show decode cX5_readCompared 36 = .ok (.if_icmp .ne 8, 3) by decide +kernel) (by decide)) rfl
    (sb_cons (pc2 := 41) (sx_bipush (show decode cX5_readCompared 39 = .ok (.bipush 7, 2) by decide +kernel) (by decide)) rfl
    (sb_cons (pc2 := 44) (px_snd_goto (show decode cX5_readCompared 41 = .ok (.goto 5, 3) by decide +kernel) (by decide)) rfl sb_nil))))))
  (ms_cons
  (sb_cons (pc2 := 46) (sx_bipush (show decode cX5_readCompared 44 = .ok (.bipush 8, 2) by decide +kernel) (by decide)) rfl sb_nil)
  (ms_cons
  (sb_cons (pc2 := 47) (sx_istore_n (show decode cX5_readCompared 46 = .ok (.istore_n 2, 1) by decide +kernel) rfl) rfl
    (sb_cons (pc2 := 48) (sx_aload_n (show decode cX5_readCompared 47 = .ok (.aload_n 0, 1) by decide +kernel) rfl) rfl
    (sb_cons (pc2 := 51) (sx_cV (Y' := YX5_next) (q := (RX5, TX5, 8)) rfl (show decode cX5_readCompared 48 = .ok (.invokevirtual 46, 3) by decide +kernel) rfl rfl (px_w4 wd_186 wd_187 wd_188 wd_189) wd_185 ⟨by decide, by decide, by decide +kernel⟩ (by decide)) rfl
    (sb_cons (pc2 := 52) (sx_aload_n (show decode cX5_readCompared 51 = .ok (.aload_n 0, 1) by decide +kernel) rfl) rfl
    (sb_cons (pc2 := 53) (sx_iload_n (show decode cX5_readCompared 52 = .ok (.iload_n 1, 1) by decide +kernel) rfl) rfl
    (sb_cons (pc2 := 56) (sx_cV (Y' := YX5_readSum) (q := (RX5, TX5, 8)) rfl (show decode cX5_readCompared 53 = .ok (.invokevirtual 76, 3) by decide +kernel) rfl rfl (px_w4 wd_220 wd_221 wd_222 wd_189) wd_219 ⟨by decide, by decide, by decide +kernel⟩ (by decide)) rfl
    (sb_cons (pc2 := 57) (sx_istore_n (show decode cX5_readCompared 56 = .ok (.istore_n 3, 1) by decide +kernel) rfl) rfl
    (sb_cons (pc2 := 58) (sx_aload_n (show decode cX5_readCompared 57 = .ok (.aload_n 0, 1) by decide +kernel) rfl) rfl
    (sb_cons (pc2 := 61) (sx_getf (show decode cX5_readCompared 58 = .ok (.getfield 18, 3) by decide +kernel) rfl iX5 (by decide) wd_173) rfl
    (sb_cons (pc2 := 62) (sx_iload_n (show decode cX5_readCompared 61 = .ok (.iload_n 2, 1) by decide +kernel) rfl) rfl
    (sb_cons (pc2 := 63) (sx_iconst (show decode cX5_readCompared 62 = .ok (.iconst 0, 1) by decide +kernel) (by decide)) rfl
    (sb_cons (pc2 := 66) (sx_cV (Y' := YX4_add) (q := (RX4, TX4, 6)) rfl (show decode cX5_readCompared 63 = .ok (.invokevirtual 66, 3) by decide +kernel) rfl rfl (px_w4 wd_208 wd_209 wd_210 wd_143) wd_207 ⟨by decide, by decide, by decide +kernel⟩ (by decide)) rfl
    (sb_cons (pc2 := 67) (sx_iload_n (show decode cX5_readCompared 66 = .ok (.iload_n 3, 1) by decide +kernel) rfl) rfl
    (sb_cons (pc2 := 68) (sx_retz (show decode cX5_readCompared 67 = .ok (.ireturn, 1) by decide +kernel) rfl) rfl sb_nil))))))))))))))
  ms_nil)))))
def kX5_readSum (X : px_X) : px_B := [(0, [], [px_aload 0, px_iload 1, px_cV X 57 2 5, px_istore 2, px_push (.int 0), px_istore 3], 8),
  (8, [true, true, true, true, false], [px_iload 3, px_push (.int 160), px_if2 (fun x y => decide (y ≤ x)) 80, px_iload 2, px_if1 (fun x => decide (x = 0)) 80, px_aload 0, px_getf 5 6, px_push (.int 43), px_if2 (fun x y => decide (x = y)) 37, px_aload 0, px_getf 5 6, px_push (.int 45), px_if2 (fun x y => decide (¬ x = y)) 80], 37),
  (37, [true, true, false, true, false], [px_aload 0, px_getf 5 6, px_push (.int 43), px_if2 (fun x y => decide (¬ x = y)) 50, px_push (.int 5), px_goto 52], 50),
  (50, [true, true, false, true, false], [px_push (.int 6)], 52),
  (52, [true, true, false, true, false], [px_istore 4, px_aload 0, px_cV X 61 1 5, px_aload 0, px_iload 1, px_cV X 57 2 5, px_istore 2, px_aload 0, px_getf 5 1, px_iload 4, px_push (.int 0), px_cV X 40 3 4, px_iinc 3 1, px_goto 8], 80),
  (80, [false, false, true, false, false], [px_iload 2, px_retz], 82)]
set_option maxRecDepth 100000 in
set_option maxHeartbeats 8000000 in
theorem sX5_readSum (d : Nat) (X : px_X) : px_MS d X YX5_readSum (kX5_readSum X) :=
  (ms_cons
  (sb_cons (pc2 := 1) (sx_aload_n (show decode cX5_readSum 0 = .ok (.aload_n 0, 1) by decide +kernel) rfl) rfl
    (sb_cons (pc2 := 2) (sx_iload_n (show decode cX5_readSum 1 = .ok (.iload_n 1, 1) by decide +kernel) rfl) rfl
    (sb_cons (pc2 := 5) (sx_cV (Y' := YX5_readTerm) (q := (RX5, TX5, 8)) rfl (show decode cX5_readSum 2 = .ok (.invokevirtual 79, 3) by decide +kernel) rfl rfl (px_w4 wd_224 wd_225 wd_226 wd_189) wd_223 ⟨by decide, by decide, by decide +kernel⟩ (by decide)) rfl
    (sb_cons (pc2 := 6) (sx_istore_n (show decode cX5_readSum 5 = .ok (.istore_n 2, 1) by decide +kernel) rfl) rfl
    (sb_cons (pc2 := 7) (sx_iconst (show decode cX5_readSum 6 = .ok (.iconst 0, 1) by decide +kernel) (by decide)) rfl
    (sb_cons (pc2 := 8) (sx_istore_n (show decode cX5_readSum 7 = .ok (.istore_n 3, 1) by decide +kernel) rfl) rfl sb_nil))))))
  (ms_cons
  (sb_cons (pc2 := 9) (sx_iload_n (show decode cX5_readSum 8 = .ok (.iload_n 3, 1) by decide +kernel) rfl) rfl
    (sb_cons (pc2 := 12) (sx_sipush (show decode cX5_readSum 9 = .ok (.sipush 160, 3) by decide +kernel) (by decide)) rfl
    (sb_cons (pc2 := 15) (sx_icmp_ge (show decode cX5_readSum 12 = .ok (.if_icmp .ge 68, 3) by decide +kernel) (by decide)) rfl
    (sb_cons (pc2 := 16) (sx_iload_n (show decode cX5_readSum 15 = .ok (.iload_n 2, 1) by decide +kernel) rfl) rfl
    (sb_cons (pc2 := 19) (sx_if_eq (show decode cX5_readSum 16 = .ok (.ifCond .eq 64, 3) by decide +kernel) (by decide)) rfl
    (sb_cons (pc2 := 20) (sx_aload_n (show decode cX5_readSum 19 = .ok (.aload_n 0, 1) by decide +kernel) rfl) rfl
    (sb_cons (pc2 := 23) (sx_getf (show decode cX5_readSum 20 = .ok (.getfield 35, 3) by decide +kernel) rfl iX5 (by decide) wd_178) rfl
    (sb_cons (pc2 := 25) (sx_bipush (show decode cX5_readSum 23 = .ok (.bipush 43, 2) by decide +kernel) (by decide)) rfl
    (sb_cons (pc2 := 28) (sx_icmp_eq (show decode cX5_readSum 25 = .ok (.if_icmp .eq 12, 3) by decide +kernel) (by decide)) rfl
    (sb_cons (pc2 := 29) (sx_aload_n (show decode cX5_readSum 28 = .ok (.aload_n 0, 1) by decide +kernel) rfl) rfl
    (sb_cons (pc2 := 32) (sx_getf (show decode cX5_readSum 29 = .ok (.getfield 35, 3) by decide +kernel) rfl iX5 (by decide) wd_178) rfl
    (sb_cons (pc2 := 34) (sx_bipush (show decode cX5_readSum 32 = .ok (.bipush 45, 2) by decide +kernel) (by decide)) rfl
    (sb_cons (pc2 := 37) (sx_icmp_ne (show decode cX5_readSum 34 = .ok (.if_icmp .ne 46, 3) by decide +kernel) (by decide)) rfl sb_nil)))))))))))))
  (ms_cons
  (sb_cons (pc2 := 38) (sx_aload_n (show decode cX5_readSum 37 = .ok (.aload_n 0, 1) by decide +kernel) rfl) rfl
    (sb_cons (pc2 := 41) (sx_getf (show decode cX5_readSum 38 = .ok (.getfield 35, 3) by decide +kernel) rfl iX5 (by decide) wd_178) rfl
    (sb_cons (pc2 := 43) (sx_bipush (show decode cX5_readSum 41 = .ok (.bipush 43, 2) by decide +kernel) (by decide)) rfl
    (sb_cons (pc2 := 46) (sx_icmp_ne (show decode cX5_readSum 43 = .ok (.if_icmp .ne 7, 3) by decide +kernel) (by decide)) rfl
    (sb_cons (pc2 := 47) (sx_iconst (show decode cX5_readSum 46 = .ok (.iconst 5, 1) by decide +kernel) (by decide)) rfl
    (sb_cons (pc2 := 50) (px_snd_goto (show decode cX5_readSum 47 = .ok (.goto 5, 3) by decide +kernel) (by decide)) rfl sb_nil))))))
  (ms_cons
  (sb_cons (pc2 := 52) (sx_bipush (show decode cX5_readSum 50 = .ok (.bipush 6, 2) by decide +kernel) (by decide)) rfl sb_nil)
  (ms_cons
  (sb_cons (pc2 := 54) (sx_istore (show decode cX5_readSum 52 = .ok (.istore 4, 2) by decide +kernel)) rfl
    (sb_cons (pc2 := 55) (sx_aload_n (show decode cX5_readSum 54 = .ok (.aload_n 0, 1) by decide +kernel) rfl) rfl
    (sb_cons (pc2 := 58) (sx_cV (Y' := YX5_next) (q := (RX5, TX5, 8)) rfl (show decode cX5_readSum 55 = .ok (.invokevirtual 46, 3) by decide +kernel) rfl rfl (px_w4 wd_186 wd_187 wd_188 wd_189) wd_185 ⟨by decide, by decide, by decide +kernel⟩ (by decide)) rfl
    (sb_cons (pc2 := 59) (sx_aload_n (show decode cX5_readSum 58 = .ok (.aload_n 0, 1) by decide +kernel) rfl) rfl
    (sb_cons (pc2 := 60) (sx_iload_n (show decode cX5_readSum 59 = .ok (.iload_n 1, 1) by decide +kernel) rfl) rfl
    (sb_cons (pc2 := 63) (sx_cV (Y' := YX5_readTerm) (q := (RX5, TX5, 8)) rfl (show decode cX5_readSum 60 = .ok (.invokevirtual 79, 3) by decide +kernel) rfl rfl (px_w4 wd_224 wd_225 wd_226 wd_189) wd_223 ⟨by decide, by decide, by decide +kernel⟩ (by decide)) rfl
    (sb_cons (pc2 := 64) (sx_istore_n (show decode cX5_readSum 63 = .ok (.istore_n 2, 1) by decide +kernel) rfl) rfl
    (sb_cons (pc2 := 65) (sx_aload_n (show decode cX5_readSum 64 = .ok (.aload_n 0, 1) by decide +kernel) rfl) rfl
    (sb_cons (pc2 := 68) (sx_getf (show decode cX5_readSum 65 = .ok (.getfield 18, 3) by decide +kernel) rfl iX5 (by decide) wd_173) rfl
    (sb_cons (pc2 := 70) (sx_iload (show decode cX5_readSum 68 = .ok (.iload 4, 2) by decide +kernel)) rfl
    (sb_cons (pc2 := 71) (sx_iconst (show decode cX5_readSum 70 = .ok (.iconst 0, 1) by decide +kernel) (by decide)) rfl
    (sb_cons (pc2 := 74) (sx_cV (Y' := YX4_add) (q := (RX4, TX4, 6)) rfl (show decode cX5_readSum 71 = .ok (.invokevirtual 66, 3) by decide +kernel) rfl rfl (px_w4 wd_208 wd_209 wd_210 wd_143) wd_207 ⟨by decide, by decide, by decide +kernel⟩ (by decide)) rfl
    (sb_cons (pc2 := 77) (sx_iinc (show decode cX5_readSum 74 = .ok (.iinc 3 1, 3) by decide +kernel) (by decide)) rfl
    (sb_cons (pc2 := 80) (px_snd_goto (show decode cX5_readSum 77 = .ok (.goto (-69), 3) by decide +kernel) (by decide)) rfl sb_nil))))))))))))))
  (ms_cons
  (sb_cons (pc2 := 81) (sx_iload_n (show decode cX5_readSum 80 = .ok (.iload_n 2, 1) by decide +kernel) rfl) rfl
    (sb_cons (pc2 := 82) (sx_retz (show decode cX5_readSum 81 = .ok (.ireturn, 1) by decide +kernel) rfl) rfl sb_nil))
  ms_nil))))))
def kX5_readTerm (X : px_X) : px_B := [(0, [], [px_aload 0, px_iload 1, px_cV X 58 2 5, px_istore 2, px_push (.int 0), px_istore 3], 8),
  (8, [true, true, true, true], [px_iload 3, px_push (.int 160), px_if2 (fun x y => decide (y ≤ x)) 53, px_iload 2, px_if1 (fun x => decide (x = 0)) 53, px_aload 0, px_getf 5 6, px_push (.int 42), px_if2 (fun x y => decide (¬ x = y)) 53, px_aload 0, px_cV X 61 1 5, px_aload 0, px_iload 1, px_cV X 58 2 5, px_istore 2, px_aload 0, px_getf 5 1, px_push (.int 4), px_push (.int 0), px_cV X 40 3 4, px_iinc 3 1, px_goto 8], 53),
  (53, [false, false, true, false], [px_iload 2, px_retz], 55)]
set_option maxRecDepth 100000 in
set_option maxHeartbeats 8000000 in
theorem sX5_readTerm (d : Nat) (X : px_X) : px_MS d X YX5_readTerm (kX5_readTerm X) :=
  (ms_cons
  (sb_cons (pc2 := 1) (sx_aload_n (show decode cX5_readTerm 0 = .ok (.aload_n 0, 1) by decide +kernel) rfl) rfl
    (sb_cons (pc2 := 2) (sx_iload_n (show decode cX5_readTerm 1 = .ok (.iload_n 1, 1) by decide +kernel) rfl) rfl
    (sb_cons (pc2 := 5) (sx_cV (Y' := YX5_readOne) (q := (RX5, TX5, 8)) rfl (show decode cX5_readTerm 2 = .ok (.invokevirtual 82, 3) by decide +kernel) rfl rfl (px_w4 wd_228 wd_229 wd_230 wd_189) wd_227 ⟨by decide, by decide, by decide +kernel⟩ (by decide)) rfl
    (sb_cons (pc2 := 6) (sx_istore_n (show decode cX5_readTerm 5 = .ok (.istore_n 2, 1) by decide +kernel) rfl) rfl
    (sb_cons (pc2 := 7) (sx_iconst (show decode cX5_readTerm 6 = .ok (.iconst 0, 1) by decide +kernel) (by decide)) rfl
    (sb_cons (pc2 := 8) (sx_istore_n (show decode cX5_readTerm 7 = .ok (.istore_n 3, 1) by decide +kernel) rfl) rfl sb_nil))))))
  (ms_cons
  (sb_cons (pc2 := 9) (sx_iload_n (show decode cX5_readTerm 8 = .ok (.iload_n 3, 1) by decide +kernel) rfl) rfl
    (sb_cons (pc2 := 12) (sx_sipush (show decode cX5_readTerm 9 = .ok (.sipush 160, 3) by decide +kernel) (by decide)) rfl
    (sb_cons (pc2 := 15) (sx_icmp_ge (show decode cX5_readTerm 12 = .ok (.if_icmp .ge 41, 3) by decide +kernel) (by decide)) rfl
    (sb_cons (pc2 := 16) (sx_iload_n (show decode cX5_readTerm 15 = .ok (.iload_n 2, 1) by decide +kernel) rfl) rfl
    (sb_cons (pc2 := 19) (sx_if_eq (show decode cX5_readTerm 16 = .ok (.ifCond .eq 37, 3) by decide +kernel) (by decide)) rfl
    (sb_cons (pc2 := 20) (sx_aload_n (show decode cX5_readTerm 19 = .ok (.aload_n 0, 1) by decide +kernel) rfl) rfl
    (sb_cons (pc2 := 23) (sx_getf (show decode cX5_readTerm 20 = .ok (.getfield 35, 3) by decide +kernel) rfl iX5 (by decide) wd_178) rfl
    (sb_cons (pc2 := 25) (sx_bipush (show decode cX5_readTerm 23 = .ok (.bipush 42, 2) by decide +kernel) (by decide)) rfl
    (sb_cons (pc2 := 28) (sx_icmp_ne (show decode cX5_readTerm 25 = .ok (.if_icmp .ne 28, 3) by decide +kernel) (by decide)) rfl
    (sb_cons (pc2 := 29) (sx_aload_n (show decode cX5_readTerm 28 = .ok (.aload_n 0, 1) by decide +kernel) rfl) rfl
    (sb_cons (pc2 := 32) (sx_cV (Y' := YX5_next) (q := (RX5, TX5, 8)) rfl (show decode cX5_readTerm 29 = .ok (.invokevirtual 46, 3) by decide +kernel) rfl rfl (px_w4 wd_186 wd_187 wd_188 wd_189) wd_185 ⟨by decide, by decide, by decide +kernel⟩ (by decide)) rfl
    (sb_cons (pc2 := 33) (sx_aload_n (show decode cX5_readTerm 32 = .ok (.aload_n 0, 1) by decide +kernel) rfl) rfl
    (sb_cons (pc2 := 34) (sx_iload_n (show decode cX5_readTerm 33 = .ok (.iload_n 1, 1) by decide +kernel) rfl) rfl
    (sb_cons (pc2 := 37) (sx_cV (Y' := YX5_readOne) (q := (RX5, TX5, 8)) rfl (show decode cX5_readTerm 34 = .ok (.invokevirtual 82, 3) by decide +kernel) rfl rfl (px_w4 wd_228 wd_229 wd_230 wd_189) wd_227 ⟨by decide, by decide, by decide +kernel⟩ (by decide)) rfl
    (sb_cons (pc2 := 38) (sx_istore_n (show decode cX5_readTerm 37 = .ok (.istore_n 2, 1) by decide +kernel) rfl) rfl
    (sb_cons (pc2 := 39) (sx_aload_n (show decode cX5_readTerm 38 = .ok (.aload_n 0, 1) by decide +kernel) rfl) rfl
    (sb_cons (pc2 := 42) (sx_getf (show decode cX5_readTerm 39 = .ok (.getfield 18, 3) by decide +kernel) rfl iX5 (by decide) wd_173) rfl
    (sb_cons (pc2 := 43) (sx_iconst (show decode cX5_readTerm 42 = .ok (.iconst 4, 1) by decide +kernel) (by decide)) rfl
    (sb_cons (pc2 := 44) (sx_iconst (show decode cX5_readTerm 43 = .ok (.iconst 0, 1) by decide +kernel) (by decide)) rfl
    (sb_cons (pc2 := 47) (sx_cV (Y' := YX4_add) (q := (RX4, TX4, 6)) rfl (show decode cX5_readTerm 44 = .ok (.invokevirtual 66, 3) by decide +kernel) rfl rfl (px_w4 wd_208 wd_209 wd_210 wd_143) wd_207 ⟨by decide, by decide, by decide +kernel⟩ (by decide)) rfl
    (sb_cons (pc2 := 50) (sx_iinc (show decode cX5_readTerm 47 = .ok (.iinc 3 1, 3) by decide +kernel) (by decide)) rfl
    (sb_cons (pc2 := 53) (px_snd_goto (show decode cX5_readTerm 50 = .ok (.goto (-42), 3) by decide +kernel) (by decide)) rfl sb_nil))))))))))))))))))))))
  (ms_cons
  (sb_cons (pc2 := 54) (sx_iload_n (show decode cX5_readTerm 53 = .ok (.iload_n 2, 1) by decide +kernel) rfl) rfl
    (sb_cons (pc2 := 55) (sx_retz (show decode cX5_readTerm 54 = .ok (.ireturn, 1) by decide +kernel) rfl) rfl sb_nil))
  ms_nil)))
def kX5_readOne (X : px_X) : px_B := [(0, [], [px_aload 0, px_getf 5 6, px_push (.int 2), px_if2 (fun x y => decide (x = y)) 16, px_aload 0, px_getf 5 6, px_push (.int 3), px_if2 (fun x y => decide (¬ x = y)) 46], 16),
  (16, [true, false], [px_aload 0, px_getf 5 1, px_aload 0, px_getf 5 6, px_push (.int 2), px_if2 (fun x y => decide (¬ x = y)) 32, px_push (.int 0), px_goto 33], 32),
  (32, [true, false], [px_push (.int 1)], 33),
  (33, [true, false], [px_aload 0, px_getf 5 7, px_cV X 40 3 4, px_aload 0, px_cV X 61 1 5, px_push (.int 1), px_retz], 46),
  (46, [true, true], [px_aload 0, px_getf 5 6, px_push (.int 45), px_if2 (fun x y => decide (x = y)) 64, px_aload 0, px_getf 5 6, px_push (.int 40), px_if2 (fun x y => decide (¬ x = y)) 69], 64),
  (64, [true, true], [px_iload 1, px_push (.int 5), px_if2 (fun x y => decide (x < y)) 71], 69),
  (69, [false, false], [px_push (.int 0), px_retz], 71),
  (71, [true, true], [px_aload 0, px_getf 5 6, px_push (.int 45), px_if2 (fun x y => decide (¬ x = y)) 90, px_aload 0, px_iload 1, px_push (.int 1), (px_i2 fun x y => x + y), px_cV X 59 2 5, px_goto 97], 90),
  (90, [true, true], [px_aload 0, px_iload 1, px_push (.int 1), (px_i2 fun x y => x + y), px_cV X 60 2 5], 97),
  (97, [false, false], [px_retz], 98)]
set_option maxRecDepth 100000 in
set_option maxHeartbeats 8000000 in
theorem sX5_readOne (d : Nat) (X : px_X) : px_MS d X YX5_readOne (kX5_readOne X) :=
  (ms_cons
  (sb_cons (pc2 := 1) (sx_aload_n (show decode cX5_readOne 0 = .ok (.aload_n 0, 1) by decide +kernel) rfl) rfl
    (sb_cons (pc2 := 4) (sx_getf (show decode cX5_readOne 1 = .ok (.getfield 35, 3) by decide +kernel) rfl iX5 (by decide) wd_178) rfl
    (sb_cons (pc2 := 5) (sx_iconst (show decode cX5_readOne 4 = .ok (.iconst 2, 1) by decide +kernel) (by decide)) rfl
    (sb_cons (pc2 := 8) (sx_icmp_eq (show decode cX5_readOne 5 = .ok (.if_icmp .eq 11, 3) by decide +kernel) (by decide)) rfl
    (sb_cons (pc2 := 9) (sx_aload_n (show decode cX5_readOne 8 = .ok (.aload_n 0, 1) by decide +kernel) rfl) rfl
    (sb_cons (pc2 := 12) (sx_getf (show decode cX5_readOne 9 = .ok (.getfield 35, 3) by decide +kernel) rfl iX5 (by decide) wd_178) rfl
    (sb_cons (pc2 := 13) (sx_iconst (show decode cX5_readOne 12 = .ok (.iconst 3, 1) by decide +kernel) (by decide)) rfl
    (sb_cons (pc2 := 16) (sx_icmp_ne (show decode cX5_readOne 13 = .ok (.if_icmp .ne 33, 3) by decide +kernel) (by decide)) rfl sb_nil))))))))
  (ms_cons
  (sb_cons (pc2 := 17) (sx_aload_n (show decode cX5_readOne 16 = .ok (.aload_n 0, 1) by decide +kernel) rfl) rfl
    (sb_cons (pc2 := 20) (sx_getf (show decode cX5_readOne 17 = .ok (.getfield 18, 3) by decide +kernel) rfl iX5 (by decide) wd_173) rfl
    (sb_cons (pc2 := 21) (sx_aload_n (show decode cX5_readOne 20 = .ok (.aload_n 0, 1) by decide +kernel) rfl) rfl
    (sb_cons (pc2 := 24) (sx_getf (show decode cX5_readOne 21 = .ok (.getfield 35, 3) by decide +kernel) rfl iX5 (by decide) wd_178) rfl
    (sb_cons (pc2 := 25) (sx_iconst (show decode cX5_readOne 24 = .ok (.iconst 2, 1) by decide +kernel) (by decide)) rfl
    (sb_cons (pc2 := 28) (sx_icmp_ne (show decode cX5_readOne 25 = .ok (.if_icmp .ne 7, 3) by decide +kernel) (by decide)) rfl
    (sb_cons (pc2 := 29) (sx_iconst (show decode cX5_readOne 28 = .ok (.iconst 0, 1) by decide +kernel) (by decide)) rfl
    (sb_cons (pc2 := 32) (px_snd_goto (show decode cX5_readOne 29 = .ok (.goto 4, 3) by decide +kernel) (by decide)) rfl sb_nil))))))))
  (ms_cons
  (sb_cons (pc2 := 33) (sx_iconst (show decode cX5_readOne 32 = .ok (.iconst 1, 1) by decide +kernel) (by decide)) rfl sb_nil)
  (ms_cons
  (sb_cons (pc2 := 34) (sx_aload_n (show decode cX5_readOne 33 = .ok (.aload_n 0, 1) by decide +kernel) rfl) rfl
    (sb_cons (pc2 := 37) (sx_getf (show decode cX5_readOne 34 = .ok (.getfield 38, 3) by decide +kernel) rfl iX5 (by decide) wd_179) rfl
    (sb_cons (pc2 := 40) (sx_cV (Y' := YX4_add) (q := (RX4, TX4, 6)) rfl (show decode cX5_readOne 37 = .ok (.invokevirtual 66, 3) by decide +kernel) rfl rfl (px_w4 wd_208 wd_209 wd_210 wd_143) wd_207 ⟨by decide, by decide, by decide +kernel⟩ (by decide)) rfl
    (sb_cons (pc2 := 41) (sx_aload_n (show decode cX5_readOne 40 = .ok (.aload_n 0, 1) by decide +kernel) rfl) rfl
    (sb_cons (pc2 := 44) (sx_cV (Y' := YX5_next) (q := (RX5, TX5, 8)) rfl (show decode cX5_readOne 41 = .ok (.invokevirtual 46, 3) by decide +kernel) rfl rfl (px_w4 wd_186 wd_187 wd_188 wd_189) wd_185 ⟨by decide, by decide, by decide +kernel⟩ (by decide)) rfl
    (sb_cons (pc2 := 45) (sx_iconst (show decode cX5_readOne 44 = .ok (.iconst 1, 1) by decide +kernel) (by decide)) rfl
    (sb_cons (pc2 := 46) (sx_retz (show decode cX5_readOne 45 = .ok (.ireturn, 1) by decide +kernel) rfl) rfl sb_nil)))))))
  (ms_cons
  (sb_cons (pc2 := 47) (sx_aload_n (show decode cX5_readOne 46 = .ok (.aload_n 0, 1) by decide +kernel) rfl) rfl
    (sb_cons (pc2 := 50) (sx_getf (show decode cX5_readOne 47 = .ok (.getfield 35, 3) by decide +kernel) rfl iX5 (by decide) wd_178) rfl
    (sb_cons (pc2 := 52) (sx_bipush (show decode cX5_readOne 50 = .ok (.bipush 45, 2) by decide +kernel) (by decide)) rfl
    (sb_cons (pc2 := 55) (sx_icmp_eq (show decode cX5_readOne 52 = .ok (.if_icmp .eq 12, 3) by decide +kernel) (by decide)) rfl
    (sb_cons (pc2 := 56) (sx_aload_n (show decode cX5_readOne 55 = .ok (.aload_n 0, 1) by decide +kernel) rfl) rfl
    (sb_cons (pc2 := 59) (sx_getf (show decode cX5_readOne 56 = .ok (.getfield 35, 3) by decide +kernel) rfl iX5 (by decide) wd_178) rfl
    (sb_cons (pc2 := 61) (sx_bipush (show decode cX5_readOne 59 = .ok (.bipush 40, 2) by decide +kernel) (by decide)) rfl
    (sb_cons (pc2 := 64) (sx_icmp_ne (show decode cX5_readOne 61 = .ok (.if_icmp .ne 8, 3) by decide +kernel) (by decide)) rfl sb_nil))))))))
  (ms_cons
  (sb_cons (pc2 := 65) (sx_iload_n (show decode cX5_readOne 64 = .ok (.iload_n 1, 1) by decide +kernel) rfl) rfl
    (sb_cons (pc2 := 66) (sx_iconst (show decode cX5_readOne 65 = .ok (.iconst 5, 1) by decide +kernel) (by decide)) rfl
    (sb_cons (pc2 := 69) (sx_icmp_lt (show decode cX5_readOne 66 = .ok (.if_icmp .lt 5, 3) by decide +kernel) (by decide)) rfl sb_nil)))
  (ms_cons
  (sb_cons (pc2 := 70) (sx_iconst (show decode cX5_readOne 69 = .ok (.iconst 0, 1) by decide +kernel) (by decide)) rfl
    (sb_cons (pc2 := 71) (sx_retz (show decode cX5_readOne 70 = .ok (.ireturn, 1) by decide +kernel) rfl) rfl sb_nil))
  (ms_cons
  (sb_cons (pc2 := 72) (sx_aload_n (show decode cX5_readOne 71 = .ok (.aload_n 0, 1) by decide +kernel) rfl) rfl
    (sb_cons (pc2 := 75) (sx_getf (show decode cX5_readOne 72 = .ok (.getfield 35, 3) by decide +kernel) rfl iX5 (by decide) wd_178) rfl
    (sb_cons (pc2 := 77) (sx_bipush (show decode cX5_readOne 75 = .ok (.bipush 45, 2) by decide +kernel) (by decide)) rfl
    (sb_cons (pc2 := 80) (sx_icmp_ne (show decode cX5_readOne 77 = .ok (.if_icmp .ne 13, 3) by decide +kernel) (by decide)) rfl
    (sb_cons (pc2 := 81) (sx_aload_n (show decode cX5_readOne 80 = .ok (.aload_n 0, 1) by decide +kernel) rfl) rfl
    (sb_cons (pc2 := 82) (sx_iload_n (show decode cX5_readOne 81 = .ok (.iload_n 1, 1) by decide +kernel) rfl) rfl
    (sb_cons (pc2 := 83) (sx_iconst (show decode cX5_readOne 82 = .ok (.iconst 1, 1) by decide +kernel) (by decide)) rfl
    (sb_cons (pc2 := 84) (sx_iadd (show decode cX5_readOne 83 = .ok (.iadd, 1) by decide +kernel)) rfl
    (sb_cons (pc2 := 87) (sx_cV (Y' := YX5_readNegated) (q := (RX5, TX5, 8)) rfl (show decode cX5_readOne 84 = .ok (.invokevirtual 85, 3) by decide +kernel) rfl rfl (px_w4 wd_232 wd_233 wd_234 wd_189) wd_231 ⟨by decide, by decide, by decide +kernel⟩ (by decide)) rfl
    (sb_cons (pc2 := 90) (px_snd_goto (show decode cX5_readOne 87 = .ok (.goto 10, 3) by decide +kernel) (by decide)) rfl sb_nil))))))))))
  (ms_cons
  (sb_cons (pc2 := 91) (sx_aload_n (show decode cX5_readOne 90 = .ok (.aload_n 0, 1) by decide +kernel) rfl) rfl
    (sb_cons (pc2 := 92) (sx_iload_n (show decode cX5_readOne 91 = .ok (.iload_n 1, 1) by decide +kernel) rfl) rfl
    (sb_cons (pc2 := 93) (sx_iconst (show decode cX5_readOne 92 = .ok (.iconst 1, 1) by decide +kernel) (by decide)) rfl
    (sb_cons (pc2 := 94) (sx_iadd (show decode cX5_readOne 93 = .ok (.iadd, 1) by decide +kernel)) rfl
    (sb_cons (pc2 := 97) (sx_cV (Y' := YX5_readInner) (q := (RX5, TX5, 8)) rfl (show decode cX5_readOne 94 = .ok (.invokevirtual 88, 3) by decide +kernel) rfl rfl (px_w4 wd_236 wd_237 wd_238 wd_189) wd_235 ⟨by decide, by decide, by decide +kernel⟩ (by decide)) rfl sb_nil)))))
  (ms_cons
  (sb_cons (pc2 := 98) (sx_retz (show decode cX5_readOne 97 = .ok (.ireturn, 1) by decide +kernel) rfl) rfl sb_nil)
  ms_nil))))))))))
def kX5_readNegated (X : px_X) : px_B := [(0, [], [px_aload 0, px_cV X 61 1 5, px_aload 0, px_iload 1, px_cV X 58 2 5, px_istore 2, px_aload 0, px_getf 5 1, px_push (.int 2), px_push (.int 0), px_cV X 40 3 4, px_iload 2, px_retz], 21)]
set_option maxRecDepth 100000 in
set_option maxHeartbeats 8000000 in
theorem sX5_readNegated (d : Nat) (X : px_X) : px_MS d X YX5_readNegated (kX5_readNegated X) :=
  (ms_cons
  (sb_cons (pc2 := 1) (sx_aload_n (show decode cX5_readNegated 0 = .ok (.aload_n 0, 1) by decide +kernel) rfl) rfl
    (sb_cons (pc2 := 4) (sx_cV (Y' := YX5_next) (q := (RX5, TX5, 8)) rfl (show decode cX5_readNegated 1 = .ok (.invokevirtual 46, 3) by decide +kernel) rfl rfl (px_w4 wd_186 wd_187 wd_188 wd_189) wd_185 ⟨by decide, by decide, by decide +kernel⟩ (by decide)) rfl
    (sb_cons (pc2 := 5) (sx_aload_n (show decode cX5_readNegated 4 = .ok (.aload_n 0, 1) by decide +kernel) rfl) rfl
    (sb_cons (pc2 := 6) (sx_iload_n (show decode cX5_readNegated 5 = .ok (.iload_n 1, 1) by decide +kernel) rfl) rfl
    (sb_cons (pc2 := 9) (sx_cV (Y' := YX5_readOne) (q := (RX5, TX5, 8)) rfl (show decode cX5_readNegated 6 = .ok (.invokevirtual 82, 3) by decide +kernel) rfl rfl (px_w4 wd_228 wd_229 wd_230 wd_189) wd_227 ⟨by decide, by decide, by decide +kernel⟩ (by decide)) rfl
    (sb_cons (pc2 := 10) (sx_istore_n (show decode cX5_readNegated 9 = .ok (.istore_n 2, 1) by decide +kernel) rfl) rfl
    (sb_cons (pc2 := 11) (sx_aload_n (show decode cX5_readNegated 10 = .ok (.aload_n 0, 1) by decide +kernel) rfl) rfl
    (sb_cons (pc2 := 14) (sx_getf (show decode cX5_readNegated 11 = .ok (.getfield 18, 3) by decide +kernel) rfl iX5 (by decide) wd_173) rfl
    (sb_cons (pc2 := 15) (sx_iconst (show decode cX5_readNegated 14 = .ok (.iconst 2, 1) by decide +kernel) (by decide)) rfl
    (sb_cons (pc2 := 16) (sx_iconst (show decode cX5_readNegated 15 = .ok (.iconst 0, 1) by decide +kernel) (by decide)) rfl
    (sb_cons (pc2 := 19) (sx_cV (Y' := YX4_add) (q := (RX4, TX4, 6)) rfl (show decode cX5_readNegated 16 = .ok (.invokevirtual 66, 3) by decide +kernel) rfl rfl (px_w4 wd_208 wd_209 wd_210 wd_143) wd_207 ⟨by decide, by decide, by decide +kernel⟩ (by decide)) rfl
    (sb_cons (pc2 := 20) (sx_iload_n (show decode cX5_readNegated 19 = .ok (.iload_n 2, 1) by decide +kernel) rfl) rfl
    (sb_cons (pc2 := 21) (sx_retz (show decode cX5_readNegated 20 = .ok (.ireturn, 1) by decide +kernel) rfl) rfl sb_nil)))))))))))))
  ms_nil)
def kX5_readInner (X : px_X) : px_B := [(0, [], [px_aload 0, px_cV X 61 1 5, px_aload 0, px_iload 1, px_cV X 52 2 5, px_if1 (fun x => decide (x = 0)) 21, px_aload 0, px_getf 5 6, px_push (.int 41), px_if2 (fun x y => decide (x = y)) 23], 21),
  (21, [false, false], [px_push (.int 0), px_retz], 23),
  (23, [true, false], [px_aload 0, px_cV X 61 1 5, px_push (.int 1), px_retz], 29)]
set_option maxRecDepth 100000 in
set_option maxHeartbeats 8000000 in
theorem sX5_readInner (d : Nat) (X : px_X) : px_MS d X YX5_readInner (kX5_readInner X) :=
  (ms_cons
  (sb_cons (pc2 := 1) (sx_aload_n (show decode cX5_readInner 0 = .ok (.aload_n 0, 1) by decide +kernel) rfl) rfl
    (sb_cons (pc2 := 4) (sx_cV (Y' := YX5_next) (q := (RX5, TX5, 8)) rfl (show decode cX5_readInner 1 = .ok (.invokevirtual 46, 3) by decide +kernel) rfl rfl (px_w4 wd_186 wd_187 wd_188 wd_189) wd_185 ⟨by decide, by decide, by decide +kernel⟩ (by decide)) rfl
    (sb_cons (pc2 := 5) (sx_aload_n (show decode cX5_readInner 4 = .ok (.aload_n 0, 1) by decide +kernel) rfl) rfl
    (sb_cons (pc2 := 6) (sx_iload_n (show decode cX5_readInner 5 = .ok (.iload_n 1, 1) by decide +kernel) rfl) rfl
    (sb_cons (pc2 := 9) (sx_cV (Y' := YX5_readOr) (q := (RX5, TX5, 8)) rfl (show decode cX5_readInner 6 = .ok (.invokevirtual 56, 3) by decide +kernel) rfl rfl (px_w4 wd_196 wd_197 wd_198 wd_189) wd_195 ⟨by decide, by decide, by decide +kernel⟩ (by decide)) rfl
    (sb_cons (pc2 := 12) (sx_if_eq (show decode cX5_readInner 9 = .ok (.ifCond .eq 12, 3) by decide +kernel) (by decide)) rfl
    (sb_cons (pc2 := 13) (sx_aload_n (show decode cX5_readInner 12 = .ok (.aload_n 0, 1) by decide +kernel) rfl) rfl
    (sb_cons (pc2 := 16) (sx_getf (show decode cX5_readInner 13 = .ok (.getfield 35, 3) by decide +kernel) rfl iX5 (by decide) wd_178) rfl
    (sb_cons (pc2 := 18) (sx_bipush (show decode cX5_readInner 16 = .ok (.bipush 41, 2) by decide +kernel) (by decide)) rfl
    (sb_cons (pc2 := 21) (sx_icmp_eq (show decode cX5_readInner 18 = .ok (.if_icmp .eq 5, 3) by decide +kernel) (by decide)) rfl sb_nil))))))))))
  (ms_cons
  (sb_cons (pc2 := 22) (sx_iconst (show decode cX5_readInner 21 = .ok (.iconst 0, 1) by decide +kernel) (by decide)) rfl
    (sb_cons (pc2 := 23) (sx_retz (show decode cX5_readInner 22 = .ok (.ireturn, 1) by decide +kernel) rfl) rfl sb_nil))
  (ms_cons
  (sb_cons (pc2 := 24) (sx_aload_n (show decode cX5_readInner 23 = .ok (.aload_n 0, 1) by decide +kernel) rfl) rfl
    (sb_cons (pc2 := 27) (sx_cV (Y' := YX5_next) (q := (RX5, TX5, 8)) rfl (show decode cX5_readInner 24 = .ok (.invokevirtual 46, 3) by decide +kernel) rfl rfl (px_w4 wd_186 wd_187 wd_188 wd_189) wd_185 ⟨by decide, by decide, by decide +kernel⟩ (by decide)) rfl
    (sb_cons (pc2 := 28) (sx_iconst (show decode cX5_readInner 27 = .ok (.iconst 1, 1) by decide +kernel) (by decide)) rfl
    (sb_cons (pc2 := 29) (sx_retz (show decode cX5_readInner 28 = .ok (.ireturn, 1) by decide +kernel) rfl) rfl sb_nil))))
  ms_nil)))
def kX5_next (X : px_X) : px_B := [(0, [], [px_aload 0, px_getf 5 5, px_istore 1], 5),
  (5, [true, true], [px_iload 1, px_aload 0, px_getf 5 2, px_if2 (fun x y => decide (y ≤ x)) 41, px_aload 0, px_getf 5 3, px_iload 1, px_iald 0, px_push (.int 32), px_if2 (fun x y => decide (x = y)) 35, px_aload 0, px_getf 5 3, px_iload 1, px_iald 0, px_push (.int 10), px_if2 (fun x y => decide (¬ x = y)) 41], 35),
  (35, [true, true], [px_iinc 1 1, px_goto 5], 41),
  (41, [true, true], [px_aload 0, px_iload 1, px_puti 5 4, px_aload 0, px_iload 1, px_puti 5 5, px_iload 1, px_aload 0, px_getf 5 2, px_if2 (fun x y => decide (x < y)) 67, px_aload 0, px_push (.int 0), px_puti 5 6, px_goto 138], 67),
  (67, [true, true], [px_aload 0, px_getf 5 3, px_iload 1, px_iald 0, px_cS X 62 1, px_if1 (fun x => decide (x = 0)) 86, px_aload 0, px_cV X 66 1 5, px_goto 138], 86),
  (86, [true, true], [px_aload 0, px_getf 5 3, px_iload 1, px_iald 0, px_cS X 63 1, px_if1 (fun x => decide (x = 0)) 105, px_aload 0, px_cV X 65 1 5, px_goto 138], 105),
  (105, [true, true], [px_aload 0, px_aload 0, px_getf 5 3, px_iload 1, px_iald 0, px_cS X 64 1, px_if1 (fun x => decide (x = 0)) 127, px_aload 0, px_getf 5 3, px_iload 1, px_iald 0, px_goto 128], 127),
  (127, [true, true], [px_push (.int 1)], 128),
  (128, [true, true], [px_puti 5 6, px_aload 0, px_iload 1, px_push (.int 1), (px_i2 fun x y => x + y), px_puti 5 5], 138),
  (138, [false, false], [px_retv], 139)]
set_option maxRecDepth 100000 in
set_option maxHeartbeats 8000000 in
theorem sX5_next (d : Nat) (X : px_X) : px_MS d X YX5_next (kX5_next X) :=
  (ms_cons
  (sb_cons (pc2 := 1) (sx_aload_n (show decode cX5_next 0 = .ok (.aload_n 0, 1) by decide +kernel) rfl) rfl
    (sb_cons (pc2 := 4) (sx_getf (show decode cX5_next 1 = .ok (.getfield 32, 3) by decide +kernel) rfl iX5 (by decide) wd_177) rfl
    (sb_cons (pc2 := 5) (sx_istore_n (show decode cX5_next 4 = .ok (.istore_n 1, 1) by decide +kernel) rfl) rfl sb_nil)))
  (ms_cons
  (sb_cons (pc2 := 6) (sx_iload_n (show decode cX5_next 5 = .ok (.iload_n 1, 1) by decide +kernel) rfl) rfl
    (sb_cons (pc2 := 7) (sx_aload_n (show decode cX5_next 6 = .ok (.aload_n 0, 1) by decide +kernel) rfl) rfl
    (sb_cons (pc2 := 10) (sx_getf (show decode cX5_next 7 = .ok (.getfield 21, 3) by decide +kernel) rfl iX5 (by decide) wd_174) rfl
    (sb_cons (pc2 := 13) (sx_icmp_ge (show decode cX5_next 10 = .ok (.if_icmp .ge 31, 3) by decide +kernel) (by decide)) rfl
    (sb_cons (pc2 := 14) (sx_aload_n (show decode cX5_next 13 = .ok (.aload_n 0, 1) by decide +kernel) rfl) rfl
    (sb_cons (pc2 := 17) (sx_getf (show decode cX5_next 14 = .ok (.getfield 25, 3) by decide +kernel) rfl iX5 (by decide) wd_175) rfl
    (sb_cons (pc2 := 18) (sx_iload_n (show decode cX5_next 17 = .ok (.iload_n 1, 1) by decide +kernel) rfl) rfl
    (sb_cons (pc2 := 19) (sx_iald (show decode cX5_next 18 = .ok (.iaload, 1) by decide +kernel)) rfl
    (sb_cons (pc2 := 21) (sx_bipush (show decode cX5_next 19 = .ok (.bipush 32, 2) by decide +kernel) (by decide)) rfl
    (sb_cons (pc2 := 24) (sx_icmp_eq (show decode cX5_next 21 = .ok (.if_icmp .eq 14, 3) by decide +kernel) (by decide)) rfl
    (sb_cons (pc2 := 25) (sx_aload_n (show decode cX5_next 24 = .ok (.aload_n 0, 1) by decide +kernel) rfl) rfl
    (sb_cons (pc2 := 28) (sx_getf (show decode cX5_next 25 = .ok (.getfield 25, 3) by decide +kernel) rfl iX5 (by decide) wd_175) rfl
    (sb_cons (pc2 := 29) (sx_iload_n (show decode cX5_next 28 = .ok (.iload_n 1, 1) by decide +kernel) rfl) rfl
    (sb_cons (pc2 := 30) (sx_iald (show decode cX5_next 29 = .ok (.iaload, 1) by decide +kernel)) rfl
    (sb_cons (pc2 := 32) (sx_bipush (show decode cX5_next 30 = .ok (.bipush 10, 2) by decide +kernel) (by decide)) rfl
    (sb_cons (pc2 := 35) (sx_icmp_ne (show decode cX5_next 32 = .ok (.if_icmp .ne 9, 3) by decide +kernel) (by decide)) rfl sb_nil))))))))))))))))
  (ms_cons
  (sb_cons (pc2 := 38) (sx_iinc (show decode cX5_next 35 = .ok (.iinc 1 1, 3) by decide +kernel) (by decide)) rfl
    (sb_cons (pc2 := 41) (px_snd_goto (show decode cX5_next 38 = .ok (.goto (-33), 3) by decide +kernel) (by decide)) rfl sb_nil))
  (ms_cons
  (sb_cons (pc2 := 42) (sx_aload_n (show decode cX5_next 41 = .ok (.aload_n 0, 1) by decide +kernel) rfl) rfl
    (sb_cons (pc2 := 43) (sx_iload_n (show decode cX5_next 42 = .ok (.iload_n 1, 1) by decide +kernel) rfl) rfl
    (sb_cons (pc2 := 46) (sx_puti (show decode cX5_next 43 = .ok (.putfield 29, 3) by decide +kernel) rfl iX5 tyX5_ok nmX5 (by decide) wd_176 rfl (Or.inl rfl)) rfl
    (sb_cons (pc2 := 47) (sx_aload_n (show decode cX5_next 46 = .ok (.aload_n 0, 1) by decide +kernel) rfl) rfl
    (sb_cons (pc2 := 48) (sx_iload_n (show decode cX5_next 47 = .ok (.iload_n 1, 1) by decide +kernel) rfl) rfl
    (sb_cons (pc2 := 51) (sx_puti (show decode cX5_next 48 = .ok (.putfield 32, 3) by decide +kernel) rfl iX5 tyX5_ok nmX5 (by decide) wd_177 rfl (Or.inl rfl)) rfl
    (sb_cons (pc2 := 52) (sx_iload_n (show decode cX5_next 51 = .ok (.iload_n 1, 1) by decide +kernel) rfl) rfl
    (sb_cons (pc2 := 53) (sx_aload_n (show decode cX5_next 52 = .ok (.aload_n 0, 1) by decide +kernel) rfl) rfl
    (sb_cons (pc2 := 56) (sx_getf (show decode cX5_next 53 = .ok (.getfield 21, 3) by decide +kernel) rfl iX5 (by decide) wd_174) rfl
    (sb_cons (pc2 := 59) (sx_icmp_lt (show decode cX5_next 56 = .ok (.if_icmp .lt 11, 3) by decide +kernel) (by decide)) rfl
    (sb_cons (pc2 := 60) (sx_aload_n (show decode cX5_next 59 = .ok (.aload_n 0, 1) by decide +kernel) rfl) rfl
    (sb_cons (pc2 := 61) (sx_iconst (show decode cX5_next 60 = .ok (.iconst 0, 1) by decide +kernel) (by decide)) rfl
    (sb_cons (pc2 := 64) (sx_puti (show decode cX5_next 61 = .ok (.putfield 35, 3) by decide +kernel) rfl iX5 tyX5_ok nmX5 (by decide) wd_178 rfl (Or.inl rfl)) rfl
    (sb_cons (pc2 := 67) (px_snd_goto (show decode cX5_next 64 = .ok (.goto 74, 3) by decide +kernel) (by decide)) rfl sb_nil))))))))))))))
  (ms_cons
  (sb_cons (pc2 := 68) (sx_aload_n (show decode cX5_next 67 = .ok (.aload_n 0, 1) by decide +kernel) rfl) rfl
    (sb_cons (pc2 := 71) (sx_getf (show decode cX5_next 68 = .ok (.getfield 25, 3) by decide +kernel) rfl iX5 (by decide) wd_175) rfl
    (sb_cons (pc2 := 72) (sx_iload_n (show decode cX5_next 71 = .ok (.iload_n 1, 1) by decide +kernel) rfl) rfl
    (sb_cons (pc2 := 73) (sx_iald (show decode cX5_next 72 = .ok (.iaload, 1) by decide +kernel)) rfl
    (sb_cons (pc2 := 76) (sx_cS (Y' := YX5_isLetter) rfl (show decode cX5_next 73 = .ok (.invokestatic 91, 3) by decide +kernel) rfl (px_w3 wd_240 wd_241 wd_189) wd_239 ⟨by decide, by decide, by decide +kernel⟩ (by decide)) rfl
    (sb_cons (pc2 := 79) (sx_if_eq (show decode cX5_next 76 = .ok (.ifCond .eq 10, 3) by decide +kernel) (by decide)) rfl
    (sb_cons (pc2 := 80) (sx_aload_n (show decode cX5_next 79 = .ok (.aload_n 0, 1) by decide +kernel) rfl) rfl
    (sb_cons (pc2 := 83) (sx_cV (Y' := YX5_takeWord) (q := (RX5, TX5, 8)) rfl (show decode cX5_next 80 = .ok (.invokevirtual 94, 3) by decide +kernel) rfl rfl (px_w4 wd_243 wd_244 wd_245 wd_189) wd_242 ⟨by decide, by decide, by decide +kernel⟩ (by decide)) rfl
    (sb_cons (pc2 := 86) (px_snd_goto (show decode cX5_next 83 = .ok (.goto 55, 3) by decide +kernel) (by decide)) rfl sb_nil)))))))))
  (ms_cons
  (sb_cons (pc2 := 87) (sx_aload_n (show decode cX5_next 86 = .ok (.aload_n 0, 1) by decide +kernel) rfl) rfl
    (sb_cons (pc2 := 90) (sx_getf (show decode cX5_next 87 = .ok (.getfield 25, 3) by decide +kernel) rfl iX5 (by decide) wd_175) rfl
    (sb_cons (pc2 := 91) (sx_iload_n (show decode cX5_next 90 = .ok (.iload_n 1, 1) by decide +kernel) rfl) rfl
    (sb_cons (pc2 := 92) (sx_iald (show decode cX5_next 91 = .ok (.iaload, 1) by decide +kernel)) rfl
    (sb_cons (pc2 := 95) (sx_cS (Y' := YX5_isDigit) rfl (show decode cX5_next 92 = .ok (.invokestatic 97, 3) by decide +kernel) rfl (px_w3 wd_247 wd_248 wd_189) wd_246 ⟨by decide, by decide, by decide +kernel⟩ (by decide)) rfl
    (sb_cons (pc2 := 98) (sx_if_eq (show decode cX5_next 95 = .ok (.ifCond .eq 10, 3) by decide +kernel) (by decide)) rfl
    (sb_cons (pc2 := 99) (sx_aload_n (show decode cX5_next 98 = .ok (.aload_n 0, 1) by decide +kernel) rfl) rfl
    (sb_cons (pc2 := 102) (sx_cV (Y' := YX5_takeNumber) (q := (RX5, TX5, 8)) rfl (show decode cX5_next 99 = .ok (.invokevirtual 100, 3) by decide +kernel) rfl rfl (px_w4 wd_250 wd_251 wd_252 wd_189) wd_249 ⟨by decide, by decide, by decide +kernel⟩ (by decide)) rfl
    (sb_cons (pc2 := 105) (px_snd_goto (show decode cX5_next 102 = .ok (.goto 36, 3) by decide +kernel) (by decide)) rfl sb_nil)))))))))
  (ms_cons
  (sb_cons (pc2 := 106) (sx_aload_n (show decode cX5_next 105 = .ok (.aload_n 0, 1) by decide +kernel) rfl) rfl
    (sb_cons (pc2 := 107) (sx_aload_n (show decode cX5_next 106 = .ok (.aload_n 0, 1) by decide +kernel) rfl) rfl
    (sb_cons (pc2 := 110) (sx_getf (show decode cX5_next 107 = .ok (.getfield 25, 3) by decide +kernel) rfl iX5 (by decide) wd_175) rfl
    (sb_cons (pc2 := 111) (sx_iload_n (show decode cX5_next 110 = .ok (.iload_n 1, 1) by decide +kernel) rfl) rfl
    (sb_cons (pc2 := 112) (sx_iald (show decode cX5_next 111 = .ok (.iaload, 1) by decide +kernel)) rfl
    (sb_cons (pc2 := 115) (sx_cS (Y' := YX5_isSign) rfl (show decode cX5_next 112 = .ok (.invokestatic 103, 3) by decide +kernel) rfl (px_w3 wd_254 wd_255 wd_189) wd_253 ⟨by decide, by decide, by decide +kernel⟩ (by decide)) rfl
    (sb_cons (pc2 := 118) (sx_if_eq (show decode cX5_next 115 = .ok (.ifCond .eq 12, 3) by decide +kernel) (by decide)) rfl
    (sb_cons (pc2 := 119) (sx_aload_n (show decode cX5_next 118 = .ok (.aload_n 0, 1) by decide +kernel) rfl) rfl
    (sb_cons (pc2 := 122) (sx_getf (show decode cX5_next 119 = .ok (.getfield 25, 3) by decide +kernel) rfl iX5 (by decide) wd_175) rfl
    (sb_cons (pc2 := 123) (sx_iload_n (show decode cX5_next 122 = .ok (.iload_n 1, 1) by decide +kernel) rfl) rfl
    (sb_cons (pc2 := 124) (sx_iald (show decode cX5_next 123 = .ok (.iaload, 1) by decide +kernel)) rfl
    (sb_cons (pc2 := 127) (px_snd_goto (show decode cX5_next 124 = .ok (.goto 4, 3) by decide +kernel) (by decide)) rfl sb_nil))))))))))))
  (ms_cons
  (sb_cons (pc2 := 128) (sx_iconst (show decode cX5_next 127 = .ok (.iconst 1, 1) by decide +kernel) (by decide)) rfl sb_nil)
  (ms_cons
  (sb_cons (pc2 := 131) (sx_puti (show decode cX5_next 128 = .ok (.putfield 35, 3) by decide +kernel) rfl iX5 tyX5_ok nmX5 (by decide) wd_178 rfl (Or.inl rfl)) rfl
    (sb_cons (pc2 := 132) (sx_aload_n (show decode cX5_next 131 = .ok (.aload_n 0, 1) by decide +kernel) rfl) rfl
    (sb_cons (pc2 := 133) (sx_iload_n (show decode cX5_next 132 = .ok (.iload_n 1, 1) by decide +kernel) rfl) rfl
    (sb_cons (pc2 := 134) (sx_iconst (show decode cX5_next 133 = .ok (.iconst 1, 1) by decide +kernel) (by decide)) rfl
    (sb_cons (pc2 := 135) (sx_iadd (show decode cX5_next 134 = .ok (.iadd, 1) by decide +kernel)) rfl
    (sb_cons (pc2 := 138) (sx_puti (show decode cX5_next 135 = .ok (.putfield 32, 3) by decide +kernel) rfl iX5 tyX5_ok nmX5 (by decide) wd_177 rfl (Or.inl rfl)) rfl sb_nil))))))
  (ms_cons
  (sb_cons (pc2 := 139) (sx_retv (show decode cX5_next 138 = .ok (.return_, 1) by decide +kernel) rfl) rfl sb_nil)
  ms_nil))))))))))
def kX5_isLetter (X : px_X) : px_B := [(0, [], [px_iload 0, px_push (.int 97), px_if2 (fun x y => decide (x < y)) 16, px_iload 0, px_push (.int 122), px_if2 (fun x y => decide (y < x)) 16, px_push (.int 1), px_goto 17], 16),
  (16, [false], [px_push (.int 0)], 17),
  (17, [false], [px_retz], 18)]
set_option maxRecDepth 100000 in
set_option maxHeartbeats 8000000 in
theorem sX5_isLetter (d : Nat) (X : px_X) : px_MS d X YX5_isLetter (kX5_isLetter X) :=
  (ms_cons
  (sb_cons (pc2 := 1) (sx_iload_n (show decode cX5_isLetter 0 = .ok (.iload_n 0, 1) by decide +kernel) rfl) rfl
    (sb_cons (pc2 := 3) (sx_bipush (show decode cX5_isLetter 1 = .ok (.bipush 97, 2) by decide +kernel) (by decide)) rfl
    (sb_cons (pc2 := 6) (sx_icmp_lt (show decode cX5_isLetter 3 = .ok (.if_icmp .lt 13, 3) by decide +kernel) (by decide)) rfl
    (sb_cons (pc2 := 7) (sx_iload_n (show decode cX5_isLetter 6 = .ok (.iload_n 0, 1) by decide +kernel) rfl) rfl
    (sb_cons (pc2 := 9) (sx_bipush (show decode cX5_isLetter 7 = .ok (.bipush 122, 2) by decide +kernel) (by decide)) rfl
    (sb_cons (pc2 := 12) (sx_icmp_gt (show decode cX5_isLetter 9 = .ok (.if_icmp .gt 7, 3) by decide +kernel) (by decide)) rfl
    (sb_cons (pc2 := 13) (sx_iconst (show decode cX5_isLetter 12 = .ok (.iconst 1, 1) by decide +kernel) (by decide)) rfl
    (sb_cons (pc2 := 16) (px_snd_goto (show decode cX5_isLetter 13 = .ok (.goto 4, 3) by decide +kernel) (by decide)) rfl sb_nil))))))))
  (ms_cons
  (sb_cons (pc2 := 17) (sx_iconst (show decode cX5_isLetter 16 = .ok (.iconst 0, 1) by decide +kernel) (by decide)) rfl sb_nil)
  (ms_cons
  (sb_cons (pc2 := 18) (sx_retz (show decode cX5_isLetter 17 = .ok (.ireturn, 1) by decide +kernel) rfl) rfl sb_nil)
  ms_nil)))
def kX5_isDigit (X : px_X) : px_B := [(0, [], [px_iload 0, px_push (.int 48), px_if2 (fun x y => decide (x < y)) 16, px_iload 0, px_push (.int 57), px_if2 (fun x y => decide (y < x)) 16, px_push (.int 1), px_goto 17], 16),
  (16, [false], [px_push (.int 0)], 17),
  (17, [false], [px_retz], 18)]
set_option maxRecDepth 100000 in
set_option maxHeartbeats 8000000 in
theorem sX5_isDigit (d : Nat) (X : px_X) : px_MS d X YX5_isDigit (kX5_isDigit X) :=
  (ms_cons
  (sb_cons (pc2 := 1) (sx_iload_n (show decode cX5_isDigit 0 = .ok (.iload_n 0, 1) by decide +kernel) rfl) rfl
    (sb_cons (pc2 := 3) (sx_bipush (show decode cX5_isDigit 1 = .ok (.bipush 48, 2) by decide +kernel) (by decide)) rfl
    (sb_cons (pc2 := 6) (sx_icmp_lt (show decode cX5_isDigit 3 = .ok (.if_icmp .lt 13, 3) by decide +kernel) (by decide)) rfl
    (sb_cons (pc2 := 7) (sx_iload_n (show decode cX5_isDigit 6 = .ok (.iload_n 0, 1) by decide +kernel) rfl) rfl
    (sb_cons (pc2 := 9) (sx_bipush (show decode cX5_isDigit 7 = .ok (.bipush 57, 2) by decide +kernel) (by decide)) rfl
    (sb_cons (pc2 := 12) (sx_icmp_gt (show decode cX5_isDigit 9 = .ok (.if_icmp .gt 7, 3) by decide +kernel) (by decide)) rfl
    (sb_cons (pc2 := 13) (sx_iconst (show decode cX5_isDigit 12 = .ok (.iconst 1, 1) by decide +kernel) (by decide)) rfl
    (sb_cons (pc2 := 16) (px_snd_goto (show decode cX5_isDigit 13 = .ok (.goto 4, 3) by decide +kernel) (by decide)) rfl sb_nil))))))))
  (ms_cons
  (sb_cons (pc2 := 17) (sx_iconst (show decode cX5_isDigit 16 = .ok (.iconst 0, 1) by decide +kernel) (by decide)) rfl sb_nil)
  (ms_cons
  (sb_cons (pc2 := 18) (sx_retz (show decode cX5_isDigit 17 = .ok (.ireturn, 1) by decide +kernel) rfl) rfl sb_nil)
  ms_nil)))
def kX5_isSign (X : px_X) : px_B := [(0, [], [px_iload 0, px_sw [(40, 104), (41, 104), (42, 104), (43, 104), (44, 106), (45, 104), (46, 106), (47, 106), (48, 106), (49, 106), (50, 106), (51, 106), (52, 106), (53, 106), (54, 106), (55, 106), (56, 106), (57, 106), (58, 106), (59, 104), (60, 104), (61, 104)] 106], 104),
  (104, [false], [px_push (.int 1), px_retz], 106),
  (106, [false], [px_push (.int 0), px_retz], 108)]
set_option maxRecDepth 100000 in
set_option maxHeartbeats 8000000 in
theorem sX5_isSign (d : Nat) (X : px_X) : px_MS d X YX5_isSign (kX5_isSign X) :=
  (ms_cons
  (sb_cons (pc2 := 1) (sx_iload_n (show decode cX5_isSign 0 = .ok (.iload_n 0, 1) by decide +kernel) rfl) rfl
    (sb_cons (pc2 := 104) (sx_tsw (show decode cX5_isSign 1 = .ok (.tableswitch 105 40 61 #[103, 103, 103, 103, 105, 103, 105, 105, 105, 105, 105, 105, 105, 105, 105, 105, 105, 105, 105, 103, 103, 103], 103) by decide +kernel) (by decide) (by decide +kernel) (by decide +kernel)) rfl sb_nil))
  (ms_cons
  (sb_cons (pc2 := 105) (sx_iconst (show decode cX5_isSign 104 = .ok (.iconst 1, 1) by decide +kernel) (by decide)) rfl
    (sb_cons (pc2 := 106) (sx_retz (show decode cX5_isSign 105 = .ok (.ireturn, 1) by decide +kernel) rfl) rfl sb_nil))
  (ms_cons
  (sb_cons (pc2 := 107) (sx_iconst (show decode cX5_isSign 106 = .ok (.iconst 0, 1) by decide +kernel) (by decide)) rfl
    (sb_cons (pc2 := 108) (sx_retz (show decode cX5_isSign 107 = .ok (.ireturn, 1) by decide +kernel) rfl) rfl sb_nil))
  ms_nil)))
def kX5_takeNumber (X : px_X) : px_B := [(0, [], [px_aload 0, px_push (.int 0), px_puti 5 7], 5),
  (5, [true], [px_aload 0, px_getf 5 5, px_aload 0, px_getf 5 2, px_if2 (fun x y => decide (y ≤ x)) 68, px_aload 0, px_getf 5 3, px_aload 0, px_getf 5 5, px_iald 0, px_cS X 63 1, px_if1 (fun x => decide (x = 0)) 68, px_aload 0, px_push (.int 10), px_aload 0, px_getf 5 7, (px_i2 fun x y => x * y), px_aload 0, px_getf 5 3, px_aload 0, px_getf 5 5, px_iald 0, (px_i2 fun x y => x + y), px_push (.int 48), (px_i2 fun x y => x - y), px_puti 5 7, px_aload 0, px_dup, px_getf 5 5, px_push (.int 1), (px_i2 fun x y => x + y), px_puti 5 5, px_goto 5], 68),
  (68, [true], [px_aload 0, px_aload 0, px_getf 5 5, px_aload 0, px_getf 5 4, (px_i2 fun x y => x - y), px_push (.int 4), px_if2 (fun x y => decide (x ≤ y)) 86, px_push (.int 1), px_goto 87], 86),
  (86, [false], [px_push (.int 2)], 87),
  (87, [false], [px_puti 5 6, px_retv], 91)]
set_option maxRecDepth 100000 in
set_option maxHeartbeats 8000000 in
theorem sX5_takeNumber (d : Nat) (X : px_X) : px_MS d X YX5_takeNumber (kX5_takeNumber X) :=
  (ms_cons
  (sb_cons (pc2 := 1) (sx_aload_n (show decode cX5_takeNumber 0 = .ok (.aload_n 0, 1) by decide +kernel) rfl) rfl
    (sb_cons (pc2 := 2) (sx_iconst (show decode cX5_takeNumber 1 = .ok (.iconst 0, 1) by decide +kernel) (by decide)) rfl
    (sb_cons (pc2 := 5) (sx_puti (show decode cX5_takeNumber 2 = .ok (.putfield 38, 3) by decide +kernel) rfl iX5 tyX5_ok nmX5 (by decide) wd_179 rfl (Or.inl rfl)) rfl sb_nil)))
  (ms_cons
  (sb_cons (pc2 := 6) (sx_aload_n (show decode cX5_takeNumber 5 = .ok (.aload_n 0, 1) by decide +kernel) rfl) rfl
    (sb_cons (pc2 := 9) (sx_getf (show decode cX5_takeNumber 6 = .ok (.getfield 32, 3) by decide +kernel) rfl iX5 (by decide) wd_177) rfl
    (sb_cons (pc2 := 10) (sx_aload_n (show decode cX5_takeNumber 9 = .ok (.aload_n 0, 1) by decide +kernel) rfl) rfl
    (sb_cons (pc2 := 13) (sx_getf (show decode cX5_takeNumber 10 = .ok (.getfield 21, 3) by decide +kernel) rfl iX5 (by decide) wd_174) rfl
    (sb_cons (pc2 := 16) (sx_icmp_ge (show decode cX5_takeNumber 13 = .ok (.if_icmp .ge 55, 3) by decide +kernel) (by decide)) rfl
    (sb_cons (pc2 := 17) (sx_aload_n (show decode cX5_takeNumber 16 = .ok (.aload_n 0, 1) by decide +kernel) rfl) rfl
    (sb_cons (pc2 := 20) (sx_getf (show decode cX5_takeNumber 17 = .ok (.getfield 25, 3) by decide +kernel) rfl iX5 (by decide) wd_175) rfl
    (sb_cons (pc2 := 21) (sx_aload_n (show decode cX5_takeNumber 20 = .ok (.aload_n 0, 1) by decide +kernel) rfl) rfl
    (sb_cons (pc2 := 24) (sx_getf (show decode cX5_takeNumber 21 = .ok (.getfield 32, 3) by decide +kernel) rfl iX5 (by decide) wd_177) rfl
    (sb_cons (pc2 := 25) (sx_iald (show decode cX5_takeNumber 24 = .ok (.iaload, 1) by decide +kernel)) rfl
    (sb_cons (pc2 := 28) (sx_cS (Y' := YX5_isDigit) rfl (show decode cX5_takeNumber 25 = .ok (.invokestatic 97, 3) by decide +kernel) rfl (px_w3 wd_247 wd_248 wd_189) wd_246 ⟨by decide, by decide, by decide +kernel⟩ (by decide)) rfl
    (sb_cons (pc2 := 31) (sx_if_eq (show decode cX5_takeNumber 28 = .ok (.ifCond .eq 40, 3) by decide +kernel) (by decide)) rfl
    (sb_cons (pc2 := 32) (sx_aload_n (show decode cX5_takeNumber 31 = .ok (.aload_n 0, 1) by decide +kernel) rfl) rfl
    (sb_cons (pc2 := 34) (sx_bipush (show decode cX5_takeNumber 32 = .ok (.bipush 10, 2) by decide +kernel) (by decide)) rfl
    (sb_cons (pc2 := 35) (sx_aload_n (show decode cX5_takeNumber 34 = .ok (.aload_n 0, 1) by decide +kernel) rfl) rfl
    (sb_cons (pc2 := 38) (sx_getf (show decode cX5_takeNumber 35 = .ok (.getfield 38, 3) by decide +kernel) rfl iX5 (by decide) wd_179) rfl
    (sb_cons (pc2 := 39) (sx_imul (show decode cX5_takeNumber 38 = .ok (.imul, 1) by decide +kernel)) rfl
    (sb_cons (pc2 := 40) (sx_aload_n (show decode cX5_takeNumber 39 = .ok (.aload_n 0, 1) by decide +kernel) rfl) rfl
    (sb_cons (pc2 := 43) (sx_getf (show decode cX5_takeNumber 40 = .ok (.getfield 25, 3) by decide +kernel) rfl iX5 (by decide) wd_175) rfl
    (sb_cons (pc2 := 44) (sx_aload_n (show decode cX5_takeNumber 43 = .ok (.aload_n 0, 1) by decide +kernel) rfl) rfl
    (sb_cons (pc2 := 47) (sx_getf (show decode cX5_takeNumber 44 = .ok (.getfield 32, 3) by decide +kernel) rfl iX5 (by decide) wd_177) rfl
    (sb_cons (pc2 := 48) (sx_iald (show decode cX5_takeNumber 47 = .ok (.iaload, 1) by decide +kernel)) rfl
    (sb_cons (pc2 := 49) (sx_iadd (show decode cX5_takeNumber 48 = .ok (.iadd, 1) by decide +kernel)) rfl
    (sb_cons (pc2 := 51) (sx_bipush (show decode cX5_takeNumber 49 = .ok (.bipush 48, 2) by decide +kernel) (by decide)) rfl
    (sb_cons (pc2 := 52) (sx_isub (show decode cX5_takeNumber 51 = .ok (.isub, 1) by decide +kernel)) rfl
    (sb_cons (pc2 := 55) (sx_puti (show decode cX5_takeNumber 52 = .ok (.putfield 38, 3) by decide +kernel) rfl iX5 tyX5_ok nmX5 (by decide) wd_179 rfl (Or.inl rfl)) rfl
    (sb_cons (pc2 := 56) (sx_aload_n (show decode cX5_takeNumber 55 = .ok (.aload_n 0, 1) by decide +kernel) rfl) rfl
    (sb_cons (pc2 := 57) (sx_dup (show decode cX5_takeNumber 56 = .ok (.dup, 1) by decide +kernel)) rfl
    (sb_cons (pc2 := 60) (sx_getf (show decode cX5_takeNumber 57 = .ok (.getfield 32, 3) by decide +kernel) rfl iX5 (by decide) wd_177) rfl
    (sb_cons (pc2 := 61) (sx_iconst (show decode cX5_takeNumber 60 = .ok (.iconst 1, 1) by decide +kernel) (by decide)) rfl
    (sb_cons (pc2 := 62) (sx_iadd (show decode cX5_takeNumber 61 = .ok (.iadd, 1) by decide +kernel)) rfl
    (sb_cons (pc2 := 65) (sx_puti (show decode cX5_takeNumber 62 = .ok (.putfield 32, 3) by decide +kernel) rfl iX5 tyX5_ok nmX5 (by decide) wd_177 rfl (Or.inl rfl)) rfl
    (sb_cons (pc2 := 68) (px_snd_goto (show decode cX5_takeNumber 65 = .ok (.goto (-60), 3) by decide +kernel) (by decide)) rfl sb_nil)))))))))))))))))))))))))))))))))
  (ms_cons
  (sb_cons (pc2 := 69) (sx_aload_n (show decode cX5_takeNumber 68 = .ok (.aload_n 0, 1) by decide +kernel) rfl) rfl
    (sb_cons (pc2 := 70) (sx_aload_n (show decode cX5_takeNumber 69 = .ok (.aload_n 0, 1) by decide +kernel) rfl) rfl
    (sb_cons (pc2 := 73) (sx_getf (show decode cX5_takeNumber 70 = .ok (.getfield 32, 3) by decide +kernel) rfl iX5 (by decide) wd_177) rfl
    (sb_cons (pc2 := 74) (sx_aload_n (show decode cX5_takeNumber 73 = .ok (.aload_n 0, 1) by decide +kernel) rfl) rfl
    (sb_cons (pc2 := 77) (sx_getf (show decode cX5_takeNumber 74 = .ok (.getfield 29, 3) by decide +kernel) rfl iX5 (by decide) wd_176) rfl
    (sb_cons (pc2 := 78) (sx_isub (show decode cX5_takeNumber 77 = .ok (.isub, 1) by decide +kernel)) rfl
    (sb_cons (pc2 := 79) (sx_iconst (show decode cX5_takeNumber 78 = .ok (.iconst 4, 1) by decide +kernel) (by decide)) rfl
    (sb_cons (pc2 := 82) (sx_icmp_le (show decode cX5_takeNumber 79 = .ok (.if_icmp .le 7, 3) by decide +kernel) (by decide)) rfl
    (sb_cons (pc2 := 83) (sx_iconst (show decode cX5_takeNumber 82 = .ok (.iconst 1, 1) by decide +kernel) (by decide)) rfl
    (sb_cons (pc2 := 86) (px_snd_goto (show decode cX5_takeNumber 83 = .ok (.goto 4, 3) by decide +kernel) (by decide)) rfl sb_nil))))))))))
  (ms_cons
  (sb_cons (pc2 := 87) (sx_iconst (show decode cX5_takeNumber 86 = .ok (.iconst 2, 1) by decide +kernel) (by decide)) rfl sb_nil)
  (ms_cons
  (sb_cons (pc2 := 90) (sx_puti (show decode cX5_takeNumber 87 = .ok (.putfield 35, 3) by decide +kernel) rfl iX5 tyX5_ok nmX5 (by decide) wd_178 rfl (Or.inl rfl)) rfl
    (sb_cons (pc2 := 91) (sx_retv (show decode cX5_takeNumber 90 = .ok (.return_, 1) by decide +kernel) rfl) rfl sb_nil))
  ms_nil)))))
def kX5_takeWord (X : px_X) : px_B := [(0, [], [px_aload 0, px_getf 5 5, px_aload 0, px_getf 5 2, px_if2 (fun x y => decide (y ≤ x)) 39, px_aload 0, px_getf 5 3, px_aload 0, px_getf 5 5, px_iald 0, px_cS X 62 1, px_if1 (fun x => decide (x = 0)) 39, px_aload 0, px_dup, px_getf 5 5, px_push (.int 1), (px_i2 fun x y => x + y), px_puti 5 5, px_goto 0], 39),
  (39, [true, false], [px_aload 0, px_push (.int 1), px_puti 5 6, px_push (.int 0), px_istore 1], 46),
  (46, [true, true], [px_iload 1, px_push (.int 10), px_if2 (fun x y => decide (y ≤ x)) 95, px_aload 0, px_iload 1, px_cS X 68 1, px_cV X 67 2 5, px_if1 (fun x => decide (x = 0)) 89, px_aload 0, px_iload 1, px_push (.int 6), px_if2 (fun x y => decide (y ≤ x)) 74, px_push (.int 3), px_goto 81], 74),
  (74, [true, true], [px_push (.int 10), px_iload 1, (px_i2 fun x y => x + y), px_push (.int 6), (px_i2 fun x y => x - y)], 81),
  (81, [true, true], [px_puti 5 6, px_aload 0, px_iload 1, px_puti 5 7], 89),
  (89, [true, true], [px_iinc 1 1, px_goto 46], 95),
  (95, [false, false], [px_retv], 96)]
set_option maxRecDepth 100000 in
set_option maxHeartbeats 8000000 in
theorem sX5_takeWord (d : Nat) (X : px_X) : px_MS d X YX5_takeWord (kX5_takeWord X) :=
  (ms_cons
  (sb_cons (pc2 := 1) (sx_aload_n (show decode cX5_takeWord 0 = .ok (.aload_n 0, 1) by decide +kernel) rfl) rfl
    (sb_cons (pc2 := 4) (sx_getf (show decode cX5_takeWord 1 = .ok (.getfield 32, 3) by decide +kernel) rfl iX5 (by decide) wd_177) rfl
    (sb_cons (pc2 := 5) (sx_aload_n (show decode cX5_takeWord 4 = .ok (.aload_n 0, 1) by decide +kernel) rfl) rfl
    (sb_cons (pc2 := 8) (sx_getf (show decode cX5_takeWord 5 = .ok (.getfield 21, 3) by decide +kernel) rfl iX5 (by decide) wd_174) rfl
    (sb_cons (pc2 := 11) (sx_icmp_ge (show decode cX5_takeWord 8 = .ok (.if_icmp .ge 31, 3) by decide +kernel) (by decide)) rfl
    (sb_cons (pc2 := 12) (sx_aload_n (show decode cX5_takeWord 11 = .ok (.aload_n 0, 1) by decide +kernel) rfl) rfl
    (sb_cons (pc2 := 15) (sx_getf (show decode cX5_takeWord 12 = .ok (.getfield 25, 3) by decide +kernel) rfl iX5 (by decide) wd_175) rfl
    (sb_cons (pc2 := 16) (sx_aload_n (show decode cX5_takeWord 15 = .ok (.aload_n 0, 1) by decide +kernel) rfl) rfl
    (sb_cons (pc2 := 19) (sx_getf (show decode cX5_takeWord 16 = .ok (.getfield 32, 3) by decide +kernel) rfl iX5 (by decide) wd_177) rfl
    (sb_cons (pc2 := 20) (sx_iald (show decode cX5_takeWord 19 = .ok (.iaload, 1) by decide +kernel)) rfl
    (sb_cons (pc2 := 23) (sx_cS (Y' := YX5_isLetter) rfl (show decode cX5_takeWord 20 = .ok (.invokestatic 91, 3) by decide +kernel) rfl (px_w3 wd_240 wd_241 wd_189) wd_239 ⟨by decide, by decide, by decide +kernel⟩ (by decide)) rfl
    (sb_cons (pc2 := 26) (sx_if_eq (show decode cX5_takeWord 23 = .ok (.ifCond .eq 16, 3) by decide +kernel) (by decide)) rfl
    (sb_cons (pc2 := 27) (sx_aload_n (show decode cX5_takeWord 26 = .ok (.aload_n 0, 1) by decide +kernel) rfl) rfl
    (sb_cons (pc2 := 28) (sx_dup (show decode cX5_takeWord 27 = .ok (.dup, 1) by decide +kernel)) rfl
    (sb_cons (pc2 := 31) (sx_getf (show decode cX5_takeWord 28 = .ok (.getfield 32, 3) by decide +kernel) rfl iX5 (by decide) wd_177) rfl
    (sb_cons (pc2 := 32) (sx_iconst (show decode cX5_takeWord 31 = .ok (.iconst 1, 1) by decide +kernel) (by decide)) rfl
    (sb_cons (pc2 := 33) (sx_iadd (show decode cX5_takeWord 32 = .ok (.iadd, 1) by decide +kernel)) rfl
    (sb_cons (pc2 := 36) (sx_puti (show decode cX5_takeWord 33 = .ok (.putfield 32, 3) by decide +kernel) rfl iX5 tyX5_ok nmX5 (by decide) wd_177 rfl (Or.inl rfl)) rfl
    (sb_cons (pc2 := 39) (px_snd_goto (show decode cX5_takeWord 36 = .ok (.goto (-36), 3) by decide +kernel) (by decide)) rfl sb_nil)))))))))))))))))))
  (ms_cons
  (sb_cons (pc2 := 40) (sx_aload_n (show decode cX5_takeWord 39 = .ok (.aload_n 0, 1) by decide +kernel) rfl) rfl
    (sb_cons (pc2 := 41) (sx_iconst (show decode cX5_takeWord 40 = .ok (.iconst 1, 1) by decide +kernel) (by decide)) rfl
    (sb_cons (pc2 := 44) (sx_puti (show decode cX5_takeWord 41 = .ok (.putfield 35, 3) by decide +kernel) rfl iX5 tyX5_ok nmX5 (by decide) wd_178 rfl (Or.inl rfl)) rfl
    (sb_cons (pc2 := 45) (sx_iconst (show decode cX5_takeWord 44 = .ok (.iconst 0, 1) by decide +kernel) (by decide)) rfl
    (sb_cons (pc2 := 46) (sx_istore_n (show decode cX5_takeWord 45 = .ok (.istore_n 1, 1) by decide +kernel) rfl) rfl sb_nil)))))
  (ms_cons
  (sb_cons (pc2 := 47) (sx_iload_n (show decode cX5_takeWord 46 = .ok (.iload_n 1, 1) by decide +kernel) rfl) rfl
    (sb_cons (pc2 := 49) (sx_bipush (show decode cX5_takeWord 47 = .ok (.bipush 10, 2) by decide +kernel) (by decide)) rfl
    (sb_cons (pc2 := 52) (sx_icmp_ge (show decode cX5_takeWord 49 = .ok (.if_icmp .ge 46, 3) by decide +kernel) (by decide)) rfl
    (sb_cons (pc2 := 53) (sx_aload_n (show decode cX5_takeWord 52 = .ok (.aload_n 0, 1) by decide +kernel) rfl) rfl
    (sb_cons (pc2 := 54) (sx_iload_n (show decode cX5_takeWord 53 = .ok (.iload_n 1, 1) by decide +kernel) rfl) rfl
    (sb_cons (pc2 := 57) (sx_cS (Y' := YX5_wordAt) rfl (show decode cX5_takeWord 54 = .ok (.invokestatic 106, 3) by decide +kernel) rfl (px_w3 wd_257 wd_258 wd_189) wd_256 ⟨by decide, by decide, by decide +kernel⟩ (by decide)) rfl
    (sb_cons (pc2 := 60) (sx_cV (Y' := YX5_isAtHand) (q := (RX5, TX5, 8)) rfl (show decode cX5_takeWord 57 = .ok (.invokevirtual 110, 3) by decide +kernel) rfl rfl (px_w4 wd_260 wd_261 wd_262 wd_189) wd_259 ⟨by decide, by decide, by decide +kernel⟩ (by decide)) rfl
    (sb_cons (pc2 := 63) (sx_if_eq (show decode cX5_takeWord 60 = .ok (.ifCond .eq 29, 3) by decide +kernel) (by decide)) rfl
    (sb_cons (pc2 := 64) (sx_aload_n (show decode cX5_takeWord 63 = .ok (.aload_n 0, 1) by decide +kernel) rfl) rfl
    (sb_cons (pc2 := 65) (sx_iload_n (show decode cX5_takeWord 64 = .ok (.iload_n 1, 1) by decide +kernel) rfl) rfl
    (sb_cons (pc2 := 67) (sx_bipush (show decode cX5_takeWord 65 = .ok (.bipush 6, 2) by decide +kernel) (by decide)) rfl
    (sb_cons (pc2 := 70) (sx_icmp_ge (show decode cX5_takeWord 67 = .ok (.if_icmp .ge 7, 3) by decide +kernel) (by decide)) rfl
    (sb_cons (pc2 := 71) (sx_iconst (show decode cX5_takeWord 70 = .ok (.iconst 3, 1) by decide +kernel) (by decide)) rfl
    (sb_cons (pc2 := 74) (px_snd_goto (show decode cX5_takeWord 71 = .ok (.goto 10, 3) by decide +kernel) (by decide)) rfl sb_nil))))))))))))))
  (ms_cons
  (sb_cons (pc2 := 76) (sx_bipush (show decode cX5_takeWord 74 = .ok (.bipush 10, 2) by decide +kernel) (by decide)) rfl
    (sb_cons (pc2 := 77) (sx_iload_n (show decode cX5_takeWord 76 = .ok (.iload_n 1, 1) by decide +kernel) rfl) rfl
    (sb_cons (pc2 := 78) (sx_iadd (show decode cX5_takeWord 77 = .ok (.iadd, 1) by decide +kernel)) rfl
    (sb_cons (pc2 := 80) (sx_bipush (show decode cX5_takeWord 78 = .ok (.bipush 6, 2) by decide +kernel) (by decide)) rfl
    (sb_cons (pc2 := 81) (sx_isub (show decode cX5_takeWord 80 = .ok (.isub, 1) by decide +kernel)) rfl sb_nil)))))
  (ms_cons
  (sb_cons (pc2 := 84) (sx_puti (show decode cX5_takeWord 81 = .ok (.putfield 35, 3) by decide +kernel) rfl iX5 tyX5_ok nmX5 (by decide) wd_178 rfl (Or.inl rfl)) rfl
    (sb_cons (pc2 := 85) (sx_aload_n (show decode cX5_takeWord 84 = .ok (.aload_n 0, 1) by decide +kernel) rfl) rfl
    (sb_cons (pc2 := 86) (sx_iload_n (show decode cX5_takeWord 85 = .ok (.iload_n 1, 1) by decide +kernel) rfl) rfl
    (sb_cons (pc2 := 89) (sx_puti (show decode cX5_takeWord 86 = .ok (.putfield 38, 3) by decide +kernel) rfl iX5 tyX5_ok nmX5 (by decide) wd_179 rfl (Or.inl rfl)) rfl sb_nil))))
  (ms_cons
  (sb_cons (pc2 := 92) (sx_iinc (show decode cX5_takeWord 89 = .ok (.iinc 1 1, 3) by decide +kernel) (by decide)) rfl
    (sb_cons (pc2 := 95) (px_snd_goto (show decode cX5_takeWord 92 = .ok (.goto (-46), 3) by decide +kernel) (by decide)) rfl sb_nil))
  (ms_cons
  (sb_cons (pc2 := 96) (sx_retv (show decode cX5_takeWord 95 = .ok (.return_, 1) by decide +kernel) rfl) rfl sb_nil)
  ms_nil)))))))
def kX5_isAtHand (X : px_X) : px_B := [(0, [], [px_aload 1, px_slen, px_aload 0, px_getf 5 5, px_aload 0, px_getf 5 4, (px_i2 fun x y => x - y), px_if2 (fun x y => decide (x = y)) 18, px_push (.int 0), px_retz], 18),
  (18, [true, true, false], [px_push (.int 0), px_istore 2], 20),
  (20, [true, true, true], [px_iload 2, px_aload 1, px_slen, px_if2 (fun x y => decide (y ≤ x)) 55, px_aload 1, px_iload 2, px_schr, px_aload 0, px_getf 5 3, px_aload 0, px_getf 5 4, px_iload 2, (px_i2 fun x y => x + y), px_iald 0, px_if2 (fun x y => decide (x = y)) 49, px_push (.int 0), px_retz], 49),
  (49, [true, true, true], [px_iinc 2 1, px_goto 20], 55),
  (55, [false, false, false], [px_push (.int 1), px_retz], 57)]
set_option maxRecDepth 100000 in
set_option maxHeartbeats 8000000 in
theorem sX5_isAtHand (d : Nat) (X : px_X) : px_MS d X YX5_isAtHand (kX5_isAtHand X) :=
  (ms_cons
  (sb_cons (pc2 := 1) (sx_aload_n (show decode cX5_isAtHand 0 = .ok (.aload_n 1, 1) by decide +kernel) rfl) rfl
    (sb_cons (pc2 := 4) (sx_slen (show decode cX5_isAtHand 1 = .ok (.invokevirtual 114, 3) by decide +kernel) rfl jw_len) rfl
    (sb_cons (pc2 := 5) (sx_aload_n (show decode cX5_isAtHand 4 = .ok (.aload_n 0, 1) by decide +kernel) rfl) rfl
    (sb_cons (pc2 := 8) (sx_getf (show decode cX5_isAtHand 5 = .ok (.getfield 32, 3) by decide +kernel) rfl iX5 (by decide) wd_177) rfl
    (sb_cons (pc2 := 9) (sx_aload_n (show decode cX5_isAtHand 8 = .ok (.aload_n 0, 1) by decide +kernel) rfl) rfl
    (sb_cons (pc2 := 12) (sx_getf (show decode cX5_isAtHand 9 = .ok (.getfield 29, 3) by decide +kernel) rfl iX5 (by decide) wd_176) rfl
    (sb_cons (pc2 := 13) (sx_isub (show decode cX5_isAtHand 12 = .ok (.isub, 1) by decide +kernel)) rfl
    (sb_cons (pc2 := 16) (sx_icmp_eq (show decode cX5_isAtHand 13 = .ok (.if_icmp .eq 5, 3) by decide +kernel) (by decide)) rfl
    (sb_cons (pc2 := 17) (sx_iconst (show decode cX5_isAtHand 16 = .ok (.iconst 0, 1) by decide +kernel) (by decide)) rfl
    (sb_cons (pc2 := 18) (sx_retz (show decode cX5_isAtHand 17 = .ok (.ireturn, 1) by decide +kernel) rfl) rfl sb_nil))))))))))
  (ms_cons
  (sb_cons (pc2 := 19) (sx_iconst (show decode cX5_isAtHand 18 = .ok (.iconst 0, 1) by decide +kernel) (by decide)) rfl
    (sb_cons (pc2 := 20) (sx_istore_n (show decode cX5_isAtHand 19 = .ok (.istore_n 2, 1) by decide +kernel) rfl) rfl sb_nil))
  (ms_cons
  (sb_cons (pc2 := 21) (sx_iload_n (show decode cX5_isAtHand 20 = .ok (.iload_n 2, 1) by decide +kernel) rfl) rfl
    (sb_cons (pc2 := 22) (sx_aload_n (show decode cX5_isAtHand 21 = .ok (.aload_n 1, 1) by decide +kernel) rfl) rfl
    (sb_cons (pc2 := 25) (sx_slen (show decode cX5_isAtHand 22 = .ok (.invokevirtual 114, 3) by decide +kernel) rfl jw_len) rfl
    (sb_cons (pc2 := 28) (sx_icmp_ge (show decode cX5_isAtHand 25 = .ok (.if_icmp .ge 30, 3) by decide +kernel) (by decide)) rfl
    (sb_cons (pc2 := 29) (sx_aload_n (show decode cX5_isAtHand 28 = .ok (.aload_n 1, 1) by decide +kernel) rfl) rfl
    (sb_cons (pc2 := 30) (sx_iload_n (show decode cX5_isAtHand 29 = .ok (.iload_n 2, 1) by decide +kernel) rfl) rfl
    (sb_cons (pc2 := 33) (sx_schr (show decode cX5_isAtHand 30 = .ok (.invokevirtual 120, 3) by decide +kernel) rfl jw_chr) rfl
    (sb_cons (pc2 := 34) (sx_aload_n (show decode cX5_isAtHand 33 = .ok (.aload_n 0, 1) by decide +kernel) rfl) rfl
    (sb_cons (pc2 := 37) (sx_getf (show decode cX5_isAtHand 34 = .ok (.getfield 25, 3) by decide +kernel) rfl iX5 (by decide) wd_175) rfl
    (sb_cons (pc2 := 38) (sx_aload_n (show decode cX5_isAtHand 37 = .ok (.aload_n 0, 1) by decide +kernel) rfl) rfl
    (sb_cons (pc2 := 41) (sx_getf (show decode cX5_isAtHand 38 = .ok (.getfield 29, 3) by decide +kernel) rfl iX5 (by decide) wd_176) rfl
    (sb_cons (pc2 := 42) (sx_iload_n (show decode cX5_isAtHand 41 = .ok (.iload_n 2, 1) by decide +kernel) rfl) rfl
    (sb_cons (pc2 := 43) (sx_iadd (show decode cX5_isAtHand 42 = .ok (.iadd, 1) by decide +kernel)) rfl
    (sb_cons (pc2 := 44) (sx_iald (show decode cX5_isAtHand 43 = .ok (.iaload, 1) by decide +kernel)) rfl
    (sb_cons (pc2 := 47) (sx_icmp_eq (show decode cX5_isAtHand 44 = .ok (.if_icmp .eq 5, 3) by decide +kernel) (by decide)) rfl
    (sb_cons (pc2 := 48) (sx_iconst (show decode cX5_isAtHand 47 = .ok (.iconst 0, 1) by decide +kernel) (by decide)) rfl
    (sb_cons (pc2 := 49) (sx_retz (show decode cX5_isAtHand 48 = .ok (.ireturn, 1) by decide +kernel) rfl) rfl sb_nil)))))))))))))))))
  (ms_cons
  (sb_cons (pc2 := 52) (sx_iinc (show decode cX5_isAtHand 49 = .ok (.iinc 2 1, 3) by decide +kernel) (by decide)) rfl
    (sb_cons (pc2 := 55) (px_snd_goto (show decode cX5_isAtHand 52 = .ok (.goto (-32), 3) by decide +kernel) (by decide)) rfl sb_nil))
  (ms_cons
  (sb_cons (pc2 := 56) (sx_iconst (show decode cX5_isAtHand 55 = .ok (.iconst 1, 1) by decide +kernel) (by decide)) rfl
    (sb_cons (pc2 := 57) (sx_retz (show decode cX5_isAtHand 56 = .ok (.ireturn, 1) by decide +kernel) rfl) rfl sb_nil))
  ms_nil)))))
def kX5_wordAt (X : px_X) : px_B := [(0, [], [px_iload 0, px_sw [(0, 52), (1, 55), (2, 58), (3, 61), (4, 64), (5, 67), (6, 70), (7, 73), (8, 76)] 79], 52),
  (52, [false], [px_push (.ref 3), px_reta], 55),
  (55, [false], [px_push (.ref 4), px_reta], 58),
  (58, [false], [px_push (.ref 5), px_reta], 61),
  (61, [false], [px_push (.ref 6), px_reta], 64),
  (64, [false], [px_push (.ref 7), px_reta], 67),
  (67, [false], [px_push (.ref 8), px_reta], 70),
  (70, [false], [px_push (.ref 9), px_reta], 73),
  (73, [false], [px_push (.ref 10), px_reta], 76),
  (76, [false], [px_push (.ref 11), px_reta], 79),
  (79, [false], [px_push (.ref 12), px_reta], 82)]
set_option maxRecDepth 100000 in
set_option maxHeartbeats 8000000 in
theorem sX5_wordAt (d : Nat) (X : px_X) : px_MS d X YX5_wordAt (kX5_wordAt X) :=
  (ms_cons
  (sb_cons (pc2 := 1) (sx_iload_n (show decode cX5_wordAt 0 = .ok (.iload_n 0, 1) by decide +kernel) rfl) rfl
    (sb_cons (pc2 := 52) (sx_tsw (show decode cX5_wordAt 1 = .ok (.tableswitch 78 0 8 #[51, 54, 57, 60, 63, 66, 69, 72, 75], 51) by decide +kernel) (by decide) (by decide +kernel) (by decide +kernel)) rfl sb_nil))
  (ms_cons
  (sb_cons (pc2 := 54) (sx_ldcS (i := 0) rfl (show decode cX5_wordAt 52 = .ok (.ldc 124, 2) by decide +kernel) rfl (by decide)) rfl
    (sb_cons (pc2 := 55) (sx_reta (show decode cX5_wordAt 54 = .ok (.areturn, 1) by decide +kernel) rfl) rfl sb_nil))
  (ms_cons
  (sb_cons (pc2 := 57) (sx_ldcS (i := 1) rfl (show decode cX5_wordAt 55 = .ok (.ldc 126, 2) by decide +kernel) rfl (by decide)) rfl
    (sb_cons (pc2 := 58) (sx_reta (show decode cX5_wordAt 57 = .ok (.areturn, 1) by decide +kernel) rfl) rfl sb_nil))
  (ms_cons
  (sb_cons (pc2 := 60) (sx_ldcS (i := 2) rfl (show decode cX5_wordAt 58 = .ok (.ldc 127, 2) by decide +kernel) rfl (by decide)) rfl
    (sb_cons (pc2 := 61) (sx_reta (show decode cX5_wordAt 60 = .ok (.areturn, 1) by decide +kernel) rfl) rfl sb_nil))
  (ms_cons
  (sb_cons (pc2 := 63) (sx_ldcS (i := 3) rfl (show decode cX5_wordAt 61 = .ok (.ldc 129, 2) by decide +kernel) rfl (by decide)) rfl
    (sb_cons (pc2 := 64) (sx_reta (show decode cX5_wordAt 63 = .ok (.areturn, 1) by decide +kernel) rfl) rfl sb_nil))
  (ms_cons
  (sb_cons (pc2 := 66) (sx_ldcS (i := 4) rfl (show decode cX5_wordAt 64 = .ok (.ldc 131, 2) by decide +kernel) rfl (by decide)) rfl
    (sb_cons (pc2 := 67) (sx_reta (show decode cX5_wordAt 66 = .ok (.areturn, 1) by decide +kernel) rfl) rfl sb_nil))
  (ms_cons
  (sb_cons (pc2 := 69) (sx_ldcS (i := 5) rfl (show decode cX5_wordAt 67 = .ok (.ldc 133, 2) by decide +kernel) rfl (by decide)) rfl
    (sb_cons (pc2 := 70) (sx_reta (show decode cX5_wordAt 69 = .ok (.areturn, 1) by decide +kernel) rfl) rfl sb_nil))
  (ms_cons
  (sb_cons (pc2 := 72) (sx_ldcS (i := 6) rfl (show decode cX5_wordAt 70 = .ok (.ldc 135, 2) by decide +kernel) rfl (by decide)) rfl
    (sb_cons (pc2 := 73) (sx_reta (show decode cX5_wordAt 72 = .ok (.areturn, 1) by decide +kernel) rfl) rfl sb_nil))
  (ms_cons
  (sb_cons (pc2 := 75) (sx_ldcS (i := 7) rfl (show decode cX5_wordAt 73 = .ok (.ldc 137, 2) by decide +kernel) rfl (by decide)) rfl
    (sb_cons (pc2 := 76) (sx_reta (show decode cX5_wordAt 75 = .ok (.areturn, 1) by decide +kernel) rfl) rfl sb_nil))
  (ms_cons
  (sb_cons (pc2 := 78) (sx_ldcS (i := 8) rfl (show decode cX5_wordAt 76 = .ok (.ldc 139, 2) by decide +kernel) rfl (by decide)) rfl
    (sb_cons (pc2 := 79) (sx_reta (show decode cX5_wordAt 78 = .ok (.areturn, 1) by decide +kernel) rfl) rfl sb_nil))
  (ms_cons
  (sb_cons (pc2 := 81) (sx_ldcS (i := 9) rfl (show decode cX5_wordAt 79 = .ok (.ldc 141, 2) by decide +kernel) rfl (by decide)) rfl
    (sb_cons (pc2 := 82) (sx_reta (show decode cX5_wordAt 81 = .ok (.areturn, 1) by decide +kernel) rfl) rfl sb_nil))
  ms_nil)))))))))))
