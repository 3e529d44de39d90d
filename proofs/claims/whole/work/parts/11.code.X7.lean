/-! the code of methods as pure instructions (written by wip/whole/gen.py) -/
def kX7_init (X : px_X) : px_B := [(0, [], [px_aload 0, px_pop, px_aload 0, px_push (.int 0), px_puti 7 0, px_aload 0, px_push (.int 0), px_puti 7 1, px_aload 0, px_push (.int 100), px_puti 7 2, px_aload 0, px_push (.int 8), px_newi 0, px_putr 7 3, px_aload 0, px_push (.int 8), px_newi 0, px_putr 7 4, px_aload 0, px_push (.int 8), px_newi 1, px_putr 7 5, px_aload 0, px_push (.int 24), px_newi 0, px_putr 7 6, px_aload 0, px_push (.int 24), px_newi 0, px_putr 7 7, px_aload 0, px_push (.int 24), px_newi 0, px_putr 7 8, px_aload 0, px_push (.int 0), px_puti 7 9, px_aload 0, px_push (.int 200), px_newi 0, px_putr 7 10, px_aload 0, px_push (.int 200), px_newi 0, px_putr 7 11, px_aload 0, px_push (.int 25), px_newi 0, px_putr 7 12, px_aload 0, px_push (.int 24), px_newi 0, px_putr 7 13, px_aload 0, px_push (.int 0), px_puti 7 14, px_aload 0, px_push (.int 24), px_newi 0, px_putr 7 15, px_aload 0, px_push (.int 24), px_newi 0, px_putr 7 16, px_aload 0, px_push (.int 24), px_newi 0, px_putr 7 17, px_retv], 137)]
set_option maxRecDepth 100000 in
set_option maxHeartbeats 8000000 in
theorem sX7_init (d : Nat) (X : px_X) : px_MS d X YX7_init (kX7_init X) :=
  (ms_cons
  (sb_cons (pc2 := 1) (sx_aload_n (show decode cX7_init 0 = .ok (.aload_n 0, 1) by decide +kernel) rfl) rfl
    (sb_cons (pc2 := 4) (sx_pop (show decode cX7_init 1 = .ok (.invokespecial 3, 3) by decide +kernel) wd_287 wd_1 wd_2) rfl
    (sb_cons (pc2 := 5) (sx_aload_n (show decode cX7_init 4 = .ok (.aload_n 0, 1) by decide +kernel) rfl) rfl
    (sb_cons (pc2 := 6) (sx_iconst (show decode cX7_init 5 = .ok (.iconst 0, 1) by decide +kernel) (by decide)) rfl
    (sb_cons (pc2 := 9) (sx_puti (show decode cX7_init 6 = .ok (.putfield 9, 3) by decide +kernel) rfl iX7 tyX7_ok nmX7 (by decide) wd_288 rfl (Or.inl rfl)) rfl
    (sb_cons (pc2 := 10) (sx_aload_n (show decode cX7_init 9 = .ok (.aload_n 0, 1) by decide +kernel) rfl) rfl
    (sb_cons (pc2 := 11) (sx_iconst (show decode cX7_init 10 = .ok (.iconst 0, 1) by decide +kernel) (by decide)) rfl
    (sb_cons (pc2 := 14) (sx_puti (show decode cX7_init 11 = .ok (.putfield 15, 3) by decide +kernel) rfl iX7 tyX7_ok nmX7 (by decide) wd_289 rfl (Or.inl rfl)) rfl
    (sb_cons (pc2 := 15) (sx_aload_n (show decode cX7_init 14 = .ok (.aload_n 0, 1) by decide +kernel) rfl) rfl
    (sb_cons (pc2 := 17) (sx_bipush (show decode cX7_init 15 = .ok (.bipush 100, 2) by decide +kernel) (by decide)) rfl
    (sb_cons (pc2 := 20) (sx_puti (show decode cX7_init 17 = .ok (.putfield 18, 3) by decide +kernel) rfl iX7 tyX7_ok nmX7 (by decide) wd_290 rfl (Or.inl rfl)) rfl
    (sb_cons (pc2 := 21) (sx_aload_n (show decode cX7_init 20 = .ok (.aload_n 0, 1) by decide +kernel) rfl) rfl
    (sb_cons (pc2 := 23) (sx_bipush (show decode cX7_init 21 = .ok (.bipush 8, 2) by decide +kernel) (by decide)) rfl
    (sb_cons (pc2 := 25) (sx_newi (t := 0) (show decode cX7_init 23 = .ok (.newarray .int, 2) by decide +kernel) rfl (fun _ => rfl) (Or.inl rfl) wd_17) rfl
    (sb_cons (pc2 := 28) (sx_putr (show decode cX7_init 25 = .ok (.putfield 21, 3) by decide +kernel) rfl iX7 tyX7_ok nmX7 (by decide) wd_291 (Or.inr ⟨_, rfl⟩) (Or.inr ⟨rfl, rfl, rfl⟩)) rfl
    (sb_cons (pc2 := 29) (sx_aload_n (show decode cX7_init 28 = .ok (.aload_n 0, 1) by decide +kernel) rfl) rfl
    (sb_cons (pc2 := 31) (sx_bipush (show decode cX7_init 29 = .ok (.bipush 8, 2) by decide +kernel) (by decide)) rfl
    (sb_cons (pc2 := 33) (sx_newi (t := 0) (show decode cX7_init 31 = .ok (.newarray .int, 2) by decide +kernel) rfl (fun _ => rfl) (Or.inl rfl) wd_17) rfl
    (sb_cons (pc2 := 36) (sx_putr (show decode cX7_init 33 = .ok (.putfield 25, 3) by decide +kernel) rfl iX7 tyX7_ok nmX7 (by decide) wd_292 (Or.inr ⟨_, rfl⟩) (Or.inr ⟨rfl, rfl, rfl⟩)) rfl
    (sb_cons (pc2 := 37) (sx_aload_n (show decode cX7_init 36 = .ok (.aload_n 0, 1) by decide +kernel) rfl) rfl
    (sb_cons (pc2 := 39) (sx_bipush (show decode cX7_init 37 = .ok (.bipush 8, 2) by decide +kernel) (by decide)) rfl
    (sb_cons (pc2 := 41) (sx_newi (t := 1) (show decode cX7_init 39 = .ok (.newarray .boolean, 2) by decide +kernel) rfl (fun _ => rfl) (Or.inr rfl) wd_293) rfl
    (sb_cons (pc2 := 44) (sx_putr (show decode cX7_init 41 = .ok (.putfield 28, 3) by decide +kernel) rfl iX7 tyX7_ok nmX7 (by decide) wd_294 (Or.inr ⟨_, rfl⟩) (Or.inr ⟨rfl, rfl, rfl⟩)) rfl
    (sb_cons (pc2 := 45) (sx_aload_n (show decode cX7_init 44 = .ok (.aload_n 0, 1) by decide +kernel) rfl) rfl
    (sb_cons (pc2 := 47) (sx_bipush (show decode cX7_init 45 = .ok (.bipush 24, 2) by decide +kernel) (by decide)) rfl
    (sb_cons (pc2 := 49) (sx_newi (t := 0) (show decode cX7_init 47 = .ok (.newarray .int, 2) by decide +kernel) rfl (fun _ => rfl) (Or.inl rfl) wd_17) rfl
    (sb_cons (pc2 := 52) (sx_putr (show decode cX7_init 49 = .ok (.putfield 32, 3) by decide +kernel) rfl iX7 tyX7_ok nmX7 (by decide) wd_295 (Or.inr ⟨_, rfl⟩) (Or.inr ⟨rfl, rfl, rfl⟩)) rfl
    (sb_cons (pc2 := 53) (sx_aload_n (show decode cX7_init 52 = .ok (.aload_n 0, 1) by decide +kernel) rfl) rfl
    (sb_cons (pc2 := 55) (sx_bipush (show decode cX7_init 53 = .ok (.bipush 24, 2) by decide +kernel) (by decide)) rfl
    (sb_cons (pc2 := 57) (sx_newi (t := 0) (show decode cX7_init 55 = .ok (.newarray .int, 2) by decide +kernel) rfl (fun _ => rfl) (Or.inl rfl) wd_17) rfl
    (sb_cons (pc2 := 60) (sx_putr (show decode cX7_init 57 = .ok (.putfield 35, 3) by decide +kernel) rfl iX7 tyX7_ok nmX7 (by decide) wd_296 (Or.inr ⟨_, rfl⟩) (Or.inr ⟨rfl, rfl, rfl⟩)) rfl
    (sb_cons (pc2 := 61) (sx_aload_n (show decode cX7_init 60 = .ok (.aload_n 0, 1) by decide +kernel) rfl) rfl
    (sb_cons (pc2 := 63) (sx_bipush (show decode cX7_init 61 = .ok (.bipush 24, 2) by decide +kernel) (by decide)) rfl
    (sb_cons (pc2 := 65) (sx_newi (t := 0) (show decode cX7_init 63 = .ok (.newarray .int, 2) by decide +kernel) rfl (fun _ => rfl) (Or.inl rfl) wd_17) rfl
    (sb_cons (pc2 := 68) (sx_putr (show decode cX7_init 65 = .ok (.putfield 38, 3) by decide +kernel) rfl iX7 tyX7_ok nmX7 (by decide) wd_297 (Or.inr ⟨_, rfl⟩) (Or.inr ⟨rfl, rfl, rfl⟩)) rfl
    (sb_cons (pc2 := 69) (sx_aload_n (show decode cX7_init 68 = .ok (.aload_n 0, 1) by decide +kernel) rfl) rfl
    (sb_cons (pc2 := 70) (sx_iconst (show decode cX7_init 69 = .ok (.iconst 0, 1) by decide +kernel) (by decide)) rfl
    (sb_cons (pc2 := 73) (sx_puti (show decode cX7_init 70 = .ok (.putfield 41, 3) by decide +kernel) rfl iX7 tyX7_ok nmX7 (by decide) wd_298 rfl (Or.inl rfl)) rfl
    (sb_cons (pc2 := 74) (sx_aload_n (show decode cX7_init 73 = .ok (.aload_n 0, 1) by decide +kernel) rfl) rfl
    (sb_cons (pc2 := 77) (sx_sipush (show decode cX7_init 74 = .ok (.sipush 200, 3) by decide +kernel) (by decide)) rfl
    (sb_cons (pc2 := 79) (sx_newi (t := 0) (show decode cX7_init 77 = .ok (.newarray .int, 2) by decide +kernel) rfl (fun _ => rfl) (Or.inl rfl) wd_17) rfl
    (sb_cons (pc2 := 82) (sx_putr (show decode cX7_init 79 = .ok (.putfield 44, 3) by decide +kernel) rfl iX7 tyX7_ok nmX7 (by decide) wd_299 (Or.inr ⟨_, rfl⟩) (Or.inr ⟨rfl, rfl, rfl⟩)) rfl
    (sb_cons (pc2 := 83) (sx_aload_n (show decode cX7_init 82 = .ok (.aload_n 0, 1) by decide +kernel) rfl) rfl
    (sb_cons (pc2 := 86) (sx_sipush (show decode cX7_init 83 = .ok (.sipush 200, 3) by decide +kernel) (by decide)) rfl
    (sb_cons (pc2 := 88) (sx_newi (t := 0) (show decode cX7_init 86 = .ok (.newarray .int, 2) by decide +kernel) rfl (fun _ => rfl) (Or.inl rfl) wd_17) rfl
    (sb_cons (pc2 := 91) (sx_putr (show decode cX7_init 88 = .ok (.putfield 47, 3) by decide +kernel) rfl iX7 tyX7_ok nmX7 (by decide) wd_300 (Or.inr ⟨_, rfl⟩) (Or.inr ⟨rfl, rfl, rfl⟩)) rfl
    (sb_cons (pc2 := 92) (sx_aload_n (show decode cX7_init 91 = .ok (.aload_n 0, 1) by decide +kernel) rfl) rfl
    (sb_cons (pc2 := 94) (sx_bipush (show decode cX7_init 92 = .ok (.bipush 25, 2) by decide +kernel) (by decide)) rfl
    (sb_cons (pc2 := 96) (sx_newi (t := 0) (show decode cX7_init 94 = .ok (.newarray .int, 2) by decide +kernel) rfl (fun _ => rfl) (Or.inl rfl) wd_17) rfl
    (sb_cons (pc2 := 99) (sx_putr (show decode cX7_init 96 = .ok (.putfield 50, 3) by decide +kernel) rfl iX7 tyX7_ok nmX7 (by decide) wd_301 (Or.inr ⟨_, rfl⟩) (Or.inr ⟨rfl, rfl, rfl⟩)) rfl
    (sb_cons (pc2 := 100) (sx_aload_n (show decode cX7_init 99 = .ok (.aload_n 0, 1) by decide +kernel) rfl) rfl
    (sb_cons (pc2 := 102) (sx_bipush (show decode cX7_init 100 = .ok (.bipush 24, 2) by decide +kernel) (by decide)) rfl
    (sb_cons (pc2 := 104) (sx_newi (t := 0) (show decode cX7_init 102 = .ok (.newarray .int, 2) by decide +kernel) rfl (fun _ => rfl) (Or.inl rfl) wd_17) rfl
    (sb_cons (pc2 := 107) (sx_putr (show decode cX7_init 104 = .ok (.putfield 53, 3) by decide +kernel) rfl iX7 tyX7_ok nmX7 (by decide) wd_302 (Or.inr ⟨_, rfl⟩) (Or.inr ⟨rfl, rfl, rfl⟩)) rfl
    (sb_cons (pc2 := 108) (sx_aload_n (show decode cX7_init 107 = .ok (.aload_n 0, 1) by decide +kernel) rfl) rfl
    (sb_cons (pc2 := 109) (sx_iconst (show decode cX7_init 108 = .ok (.iconst 0, 1) by decide +kernel) (by decide)) rfl
    (sb_cons (pc2 := 112) (sx_puti (show decode cX7_init 109 = .ok (.putfield 56, 3) by decide +kernel) rfl iX7 tyX7_ok nmX7 (by decide) wd_303 rfl (Or.inl rfl)) rfl
    (sb_cons (pc2 := 113) (sx_aload_n (show decode cX7_init 112 = .ok (.aload_n 0, 1) by decide +kernel) rfl) rfl
    (sb_cons (pc2 := 115) (sx_bipush (show decode cX7_init 113 = .ok (.bipush 24, 2) by decide +kernel) (by decide)) rfl
    (sb_cons (pc2 := 117) (sx_newi (t := 0) (show decode cX7_init 115 = .ok (.newarray .int, 2) by decide +kernel) rfl (fun _ => rfl) (Or.inl rfl) wd_17) rfl
    (sb_cons (pc2 := 120) (sx_putr (show decode cX7_init 117 = .ok (.putfield 59, 3) by decide +kernel) rfl iX7 tyX7_ok nmX7 (by decide) wd_304 (Or.inr ⟨_, rfl⟩) (Or.inr ⟨rfl, rfl, rfl⟩)) rfl
    (sb_cons (pc2 := 121) (sx_aload_n (show decode cX7_init 120 = .ok (.aload_n 0, 1) by decide +kernel) rfl) rfl
    (sb_cons (pc2 := 123) (sx_bipush (show decode cX7_init 121 = .ok (.bipush 24, 2) by decide +kernel) (by decide)) rfl
    (sb_cons (pc2 := 125) (sx_newi (t := 0) (show decode cX7_init 123 = .ok (.newarray .int, 2) by decide +kernel) rfl (fun _ => rfl) (Or.inl rfl) wd_17) rfl
    (sb_cons (pc2 := 128) (sx_putr (show decode cX7_init 125 = .ok (.putfield 62, 3) by decide +kernel) rfl iX7 tyX7_ok nmX7 (by decide) wd_305 (Or.inr ⟨_, rfl⟩) (Or.inr ⟨rfl, rfl, rfl⟩)) rfl
    (sb_cons (pc2 := 129) (sx_aload_n (show decode cX7_init 128 = .ok (.aload_n 0, 1) by decide +kernel) rfl) rfl
    (sb_cons (pc2 := 131) (sx_bipush (show decode cX7_init 129 = .ok (.bipush 24, 2) by decide +kernel) (by decide)) rfl
    (sb_cons (pc2 := 133) (sx_newi (t := 0) (show decode cX7_init 131 = .ok (.newarray .int, 2) by decide +kernel) rfl (fun _ => rfl) (Or.inl rfl) wd_17) rfl
    (sb_cons (pc2 := 136) (sx_putr (show decode cX7_init 133 = .ok (.putfield 65, 3) by decide +kernel) rfl iX7 tyX7_ok nmX7 (by decide) wd_306 (Or.inr ⟨_, rfl⟩) (Or.inr ⟨rfl, rfl, rfl⟩)) rfl
    (sb_cons (pc2 := 137) (sx_retv (show decode cX7_init 136 = .ok (.return_, 1) by decide +kernel) rfl) rfl sb_nil))))))))))))))))))))))))))))))))))))))))))))))))))))))))))))))))))))))
  ms_nil)
def kX7_addMark (X : px_X) : px_B := [(0, [], [px_iload 1, px_push (.int (-5000)), px_if2 (fun x y => decide (x < y)) 28, px_iload 1, px_push (.int 5000), px_if2 (fun x y => decide (y < x)) 28, px_iload 2, px_push (.int (-5000)), px_if2 (fun x y => decide (x < y)) 28, px_iload 2, px_push (.int 5000), px_if2 (fun x y => decide (x ≤ y)) 31], 28),
  (28, [false, false, false, false], [px_push (.int (-2)), px_reti], 31),
  (31, [true, true, true, true], [px_aload 0, px_getf 7 0, px_push (.int 8), px_if2 (fun x y => decide (x < y)) 43, px_push (.int (-4)), px_reti], 43),
  (43, [true, true, true, true], [px_aload 0, px_getf 7 3, px_aload 0, px_getf 7 0, px_iload 1, px_iast 0, px_aload 0, px_getf 7 4, px_aload 0, px_getf 7 0, px_iload 2, px_iast 0, px_aload 0, px_getf 7 5, px_aload 0, px_getf 7 0, px_iload 3, px_zast, px_aload 0, px_dup, px_getf 7 0, px_push (.int 1), (px_i2 fun x y => x + y), px_puti 7 0, px_aload 0, px_cV X 83 1 7, px_aload 0, px_getf 7 0, px_push (.int 1), (px_i2 fun x y => x - y), px_reti], 94)]
set_option maxRecDepth 100000 in
set_option maxHeartbeats 8000000 in
theorem sX7_addMark (d : Nat) (X : px_X) : px_MS d X YX7_addMark (kX7_addMark X) :=
  (ms_cons
  (sb_cons (pc2 := 1) (sx_iload_n (show decode cX7_addMark 0 = .ok (.iload_n 1, 1) by decide +kernel) rfl) rfl
    (sb_cons (pc2 := 4) (sx_sipush (show decode cX7_addMark 1 = .ok (.sipush (-5000), 3) by decide +kernel) (by decide)) rfl
    (sb_cons (pc2 := 7) (sx_icmp_lt (show decode cX7_addMark 4 = .ok (.if_icmp .lt 24, 3) by decide +kernel) (by decide)) rfl
    (sb_cons (pc2 := 8) (sx_iload_n (show decode cX7_addMark 7 = .ok (.iload_n 1, 1) by decide +kernel) rfl) rfl
    (sb_cons (pc2 := 11) (sx_sipush (show decode cX7_addMark 8 = .ok (.sipush 5000, 3) by decide +kernel) (by decide)) rfl
    (sb_cons (pc2 := 14) (sx_icmp_gt (show decode cX7_addMark 11 = .ok (.if_icmp .gt 17, 3) by decide +kernel) (by decide)) rfl
    (sb_cons (pc2 := 15) (sx_iload_n (show decode cX7_addMark 14 = .ok (.iload_n 2, 1) by decide +kernel) rfl) rfl
    (sb_cons (pc2 := 18) (sx_sipush (show decode cX7_addMark 15 = .ok (.sipush (-5000), 3) by decide +kernel) (by decide)) rfl
    (sb_cons (pc2 := 21) (sx_icmp_lt (show decode cX7_addMark 18 = .ok (.if_icmp .lt 10, 3) by decide +kernel) (by decide)) rfl
    (sb_cons (pc2 := 22) (sx_iload_n (show decode cX7_addMark 21 = .ok (.iload_n 2, 1) by decide +kernel) rfl) rfl
    (sb_cons (pc2 := 25) (sx_sipush (show decode cX7_addMark 22 = .ok (.sipush 5000, 3) by decide +kernel) (by decide)) rfl
    (sb_cons (pc2 := 28) (sx_icmp_le (show decode cX7_addMark 25 = .ok (.if_icmp .le 6, 3) by decide +kernel) (by decide)) rfl sb_nil))))))))))))
  (ms_cons
  (sb_cons (pc2 := 30) (sx_bipush (show decode cX7_addMark 28 = .ok (.bipush (-2), 2) by decide +kernel) (by decide)) rfl
    (sb_cons (pc2 := 31) (sx_reti (show decode cX7_addMark 30 = .ok (.ireturn, 1) by decide +kernel) rfl) rfl sb_nil))
  (ms_cons
  (sb_cons (pc2 := 32) (sx_aload_n (show decode cX7_addMark 31 = .ok (.aload_n 0, 1) by decide +kernel) rfl) rfl
    (sb_cons (pc2 := 35) (sx_getf (show decode cX7_addMark 32 = .ok (.getfield 9, 3) by decide +kernel) rfl iX7 (by decide) wd_288) rfl
    (sb_cons (pc2 := 37) (sx_bipush (show decode cX7_addMark 35 = .ok (.bipush 8, 2) by decide +kernel) (by decide)) rfl
    (sb_cons (pc2 := 40) (sx_icmp_lt (show decode cX7_addMark 37 = .ok (.if_icmp .lt 6, 3) by decide +kernel) (by decide)) rfl
    (sb_cons (pc2 := 42) (sx_bipush (show decode cX7_addMark 40 = .ok (.bipush (-4), 2) by decide +kernel) (by decide)) rfl
    (sb_cons (pc2 := 43) (sx_reti (show decode cX7_addMark 42 = .ok (.ireturn, 1) by decide +kernel) rfl) rfl sb_nil))))))
  (ms_cons
  (sb_cons (pc2 := 44) (sx_aload_n (show decode cX7_addMark 43 = .ok (.aload_n 0, 1) by decide +kernel) rfl) rfl
    (sb_cons (pc2 := 47) (sx_getf (show decode cX7_addMark 44 = .ok (.getfield 21, 3) by decide +kernel) rfl iX7 (by decide) wd_291) rfl
    (sb_cons (pc2 := 48) (sx_aload_n (show decode cX7_addMark 47 = .ok (.aload_n 0, 1) by decide +kernel) rfl) rfl
    (sb_cons (pc2 := 51) (sx_getf (show decode cX7_addMark 48 = .ok (.getfield 9, 3) by decide +kernel) rfl iX7 (by decide) wd_288) rfl
    (sb_cons (pc2 := 52) (sx_iload_n (show decode cX7_addMark 51 = .ok (.iload_n 1, 1) by decide +kernel) rfl) rfl
    (sb_cons (pc2 := 53) (sx_iast (show decode cX7_addMark 52 = .ok (.iastore, 1) by decide +kernel)) rfl
    (sb_cons (pc2 := 54) (sx_aload_n (show decode cX7_addMark 53 = .ok (.aload_n 0, 1) by decide +kernel) rfl) rfl
    (sb_cons (pc2 := 57) (sx_getf (show decode cX7_addMark 54 = .ok (.getfield 25, 3) by decide +kernel) rfl iX7 (by decide) wd_292) rfl
    (sb_cons (pc2 := 58) (sx_aload_n (show decode cX7_addMark 57 = .ok (.aload_n 0, 1) by decide +kernel) rfl) rfl
    (sb_cons (pc2 := 61) (sx_getf (show decode cX7_addMark 58 = .ok (.getfield 9, 3) by decide +kernel) rfl iX7 (by decide) wd_288) rfl
    (sb_cons (pc2 := 62) (sx_iload_n (show decode cX7_addMark 61 = .ok (.iload_n 2, 1) by decide +kernel) rfl) rfl
    (sb_cons (pc2 := 63) (sx_iast (show decode cX7_addMark 62 = .ok (.iastore, 1) by decide +kernel)) rfl
    (sb_cons (pc2 := 64) (sx_aload_n (show decode cX7_addMark 63 = .ok (.aload_n 0, 1) by decide +kernel) rfl) rfl
    (sb_cons (pc2 := 67) (sx_getf (show decode cX7_addMark 64 = .ok (.getfield 28, 3) by decide +kernel) rfl iX7 (by decide) wd_294) rfl
    (sb_cons (pc2 := 68) (sx_aload_n (show decode cX7_addMark 67 = .ok (.aload_n 0, 1) by decide +kernel) rfl) rfl
    (sb_cons (pc2 := 71) (sx_getf (show decode cX7_addMark 68 = .ok (.getfield 9, 3) by decide +kernel) rfl iX7 (by decide) wd_288) rfl
    (sb_cons (pc2 := 72) (sx_iload_n (show decode cX7_addMark 71 = .ok (.iload_n 3, 1) by decide +kernel) rfl) rfl
    (sb_cons (pc2 := 73) (sx_zast (show decode cX7_addMark 72 = .ok (.bastore, 1) by decide +kernel)) rfl
    (sb_cons (pc2 := 74) (sx_aload_n (show decode cX7_addMark 73 = .ok (.aload_n 0, 1) by decide +kernel) rfl) rfl
    (sb_cons (pc2 := 75) (sx_dup (show decode cX7_addMark 74 = .ok (.dup, 1) by decide +kernel)) rfl
    (sb_cons (pc2 := 78) (sx_getf (show decode cX7_addMark 75 = .ok (.getfield 9, 3) by decide +kernel) rfl iX7 (by decide) wd_288) rfl
    (sb_cons (pc2 := 79) (sx_iconst (show decode cX7_addMark 78 = .ok (.iconst 1, 1) by decide +kernel) (by decide)) rfl
    (sb_cons (pc2 := 80) (sx_iadd (show decode cX7_addMark 79 = .ok (.iadd, 1) by decide +kernel)) rfl
    (sb_cons (pc2 := 83) (sx_puti (show decode cX7_addMark 80 = .ok (.putfield 9, 3) by decide +kernel) rfl iX7 tyX7_ok nmX7 (by decide) wd_288 rfl (Or.inl rfl)) rfl
    (sb_cons (pc2 := 84) (sx_aload_n (show decode cX7_addMark 83 = .ok (.aload_n 0, 1) by decide +kernel) rfl) rfl
    (sb_cons (pc2 := 87) (sx_cV (Y' := YX7_forgetRounds) (q := (RX7, TX7, 18)) rfl (show decode cX7_addMark 84 = .ok (.invokevirtual 68, 3) by decide +kernel) rfl rfl (px_w4 wd_308 wd_309 wd_310 wd_311) wd_307 ⟨by decide, by decide, by decide +kernel⟩ (by decide)) rfl
    (sb_cons (pc2 := 88) (sx_aload_n (show decode cX7_addMark 87 = .ok (.aload_n 0, 1) by decide +kernel) rfl) rfl
    (sb_cons (pc2 := 91) (sx_getf (show decode cX7_addMark 88 = .ok (.getfield 9, 3) by decide +kernel) rfl iX7 (by decide) wd_288) rfl
    (sb_cons (pc2 := 92) (sx_iconst (show decode cX7_addMark 91 = .ok (.iconst 1, 1) by decide +kernel) (by decide)) rfl
    (sb_cons (pc2 := 93) (sx_isub (show decode cX7_addMark 92 = .ok (.isub, 1) by decide +kernel)) rfl
    (sb_cons (pc2 := 94) (sx_reti (show decode cX7_addMark 93 = .ok (.ireturn, 1) by decide +kernel) rfl) rfl sb_nil)))))))))))))))))))))))))))))))
  ms_nil))))
def kX7_addTape (X : px_X) : px_B := [(0, [], [px_aload 0, px_iload 1, px_cV X 82 2 7, px_if1 (fun x => decide (x = 0)) 33, px_aload 0, px_iload 2, px_cV X 82 2 7, px_if1 (fun x => decide (x = 0)) 33, px_iload 1, px_iload 2, px_if2 (fun x y => decide (x = y)) 33, px_iload 3, px_push (.int 1), px_if2 (fun x y => decide (x < y)) 33, px_iload 3, px_push (.int 15000), px_if2 (fun x y => decide (x ≤ y)) 36], 33),
  (33, [false, false, false, false], [px_push (.int (-2)), px_reti], 36),
  (36, [true, true, true, true], [px_aload 0, px_getf 7 1, px_push (.int 24), px_if2 (fun x y => decide (x < y)) 48, px_push (.int (-4)), px_reti], 48),
  (48, [true, true, true, true], [px_aload 0, px_getf 7 6, px_aload 0, px_getf 7 1, px_iload 1, px_iast 0, px_aload 0, px_getf 7 7, px_aload 0, px_getf 7 1, px_iload 2, px_iast 0, px_aload 0, px_getf 7 8, px_aload 0, px_getf 7 1, px_iload 3, px_iast 0, px_aload 0, px_dup, px_getf 7 1, px_push (.int 1), (px_i2 fun x y => x + y), px_puti 7 1, px_aload 0, px_cV X 83 1 7, px_aload 0, px_getf 7 1, px_push (.int 1), (px_i2 fun x y => x - y), px_reti], 99)]
set_option maxRecDepth 100000 in
set_option maxHeartbeats 8000000 in
theorem sX7_addTape (d : Nat) (X : px_X) : px_MS d X YX7_addTape (kX7_addTape X) :=
  (ms_cons
  (sb_cons (pc2 := 1) (sx_aload_n (show decode cX7_addTape 0 = .ok (.aload_n 0, 1) by decide +kernel) rfl) rfl
    (sb_cons (pc2 := 2) (sx_iload_n (show decode cX7_addTape 1 = .ok (.iload_n 1, 1) by decide +kernel) rfl) rfl
    (sb_cons (pc2 := 5) (sx_cV (Y' := YX7_hasMark) (q := (RX7, TX7, 18)) rfl (show decode cX7_addTape 2 = .ok (.invokevirtual 71, 3) by decide +kernel) rfl rfl (px_w4 wd_313 wd_314 wd_315 wd_311) wd_312 ⟨by decide, by decide, by decide +kernel⟩ (by decide)) rfl
    (sb_cons (pc2 := 8) (sx_if_eq (show decode cX7_addTape 5 = .ok (.ifCond .eq 28, 3) by decide +kernel) (by decide)) rfl
    (sb_cons (pc2 := 9) (sx_aload_n (show decode cX7_addTape 8 = .ok (.aload_n 0, 1) by decide +kernel) rfl) rfl
    (sb_cons (pc2 := 10) (sx_iload_n (show decode cX7_addTape 9 = .ok (.iload_n 2, 1) by decide +kernel) rfl) rfl
    (sb_cons (pc2 := 13) (sx_cV (Y' := YX7_hasMark) (q := (RX7, TX7, 18)) rfl (show decode cX7_addTape 10 = .ok (.invokevirtual 71, 3) by decide +kernel) rfl rfl (px_w4 wd_313 wd_314 wd_315 wd_311) wd_312 ⟨by decide, by decide, by decide +kernel⟩ (by decide)) rfl
    (sb_cons (pc2 := 16) (sx_if_eq (show decode cX7_addTape 13 = .ok (.ifCond .eq 20, 3) by decide +kernel) (by decide)) rfl
    (sb_cons (pc2 := 17) (sx_iload_n (show decode cX7_addTape 16 = .ok (.iload_n 1, 1) by decide +kernel) rfl) rfl
    (sb_cons (pc2 := 18) (sx_iload_n (show decode cX7_addTape 17 = .ok (.iload_n 2, 1) by decide +kernel) rfl) rfl
    (sb_cons (pc2 := 21) (sx_icmp_eq (show decode cX7_addTape 18 = .ok (.if_icmp .eq 15, 3) by decide +kernel) (by decide)) rfl
    (sb_cons (pc2 := 22) (sx_iload_n (show decode cX7_addTape 21 = .ok (.iload_n 3, 1) by decide +kernel) rfl) rfl
    (sb_cons (pc2 := 23) (sx_iconst (show decode cX7_addTape 22 = .ok (.iconst 1, 1) by decide +kernel) (by decide)) rfl
    (sb_cons (pc2 := 26) (sx_icmp_lt (show decode cX7_addTape 23 = .ok (.if_icmp .lt 10, 3) by decide +kernel) (by decide)) rfl
    (sb_cons (pc2 := 27) (sx_iload_n (show decode cX7_addTape 26 = .ok (.iload_n 3, 1) by decide +kernel) rfl) rfl
    (sb_cons (pc2 := 30) (sx_sipush (show decode cX7_addTape 27 = .ok (.sipush 15000, 3) by decide +kernel) (by decide)) rfl
    (sb_cons (pc2 := 33) (sx_icmp_le (show decode cX7_addTape 30 = .ok (.if_icmp .le 6, 3) by decide +kernel) (by decide)) rfl sb_nil)))))))))))))))))
  (ms_cons
  (sb_cons (pc2 := 35) (sx_bipush (show decode cX7_addTape 33 = .ok (.bipush (-2), 2) by decide +kernel) (by decide)) rfl
    (sb_cons (pc2 := 36) (sx_reti (show decode cX7_addTape 35 = .ok (.ireturn, 1) by decide +kernel) rfl) rfl sb_nil))
  (ms_cons
  (sb_cons (pc2 := 37) (sx_aload_n (show decode cX7_addTape 36 = .ok (.aload_n 0, 1) by decide +kernel) rfl) rfl
    (sb_cons (pc2 := 40) (sx_getf (show decode cX7_addTape 37 = .ok (.getfield 15, 3) by decide +kernel) rfl iX7 (by decide) wd_289) rfl
    (sb_cons (pc2 := 42) (sx_bipush (show decode cX7_addTape 40 = .ok (.bipush 24, 2) by decide +kernel) (by decide)) rfl
    (sb_cons (pc2 := 45) (sx_icmp_lt (show decode cX7_addTape 42 = .ok (.if_icmp .lt 6, 3) by decide +kernel) (by decide)) rfl
    (sb_cons (pc2 := 47) (sx_bipush (show decode cX7_addTape 45 = .ok (.bipush (-4), 2) by decide +kernel) (by decide)) rfl
    (sb_cons (pc2 := 48) (sx_reti (show decode cX7_addTape 47 = .ok (.ireturn, 1) by decide +kernel) rfl) rfl sb_nil))))))
  (ms_cons
  (sb_cons (pc2 := 49) (sx_aload_n (show decode cX7_addTape 48 = .ok (.aload_n 0, 1) by decide +kernel) rfl) rfl
    (sb_cons (pc2 := 52) (sx_getf (show decode cX7_addTape 49 = .ok (.getfield 32, 3) by decide +kernel) rfl iX7 (by decide) wd_295) rfl
    (sb_cons (pc2 := 53) (sx_aload_n (show decode cX7_addTape 52 = .ok (.aload_n 0, 1) by decide +kernel) rfl) rfl
    (sb_cons (pc2 := 56) (sx_getf (show decode cX7_addTape 53 = .ok (.getfield 15, 3) by decide +kernel) rfl iX7 (by decide) wd_289) rfl
    (sb_cons (pc2 := 57) (sx_iload_n (show decode cX7_addTape 56 = .ok (.iload_n 1, 1) by decide +kernel) rfl) rfl
    (sb_cons (pc2 := 58) (sx_iast (show decode cX7_addTape 57 = .ok (.iastore, 1) by decide +kernel)) rfl
    (sb_cons (pc2 := 59) (sx_aload_n (show decode cX7_addTape 58 = .ok (.aload_n 0, 1) by decide +kernel) rfl) rfl
    (sb_cons (pc2 := 62) (sx_getf (show decode cX7_addTape 59 = .ok (.getfield 35, 3) by decide +kernel) rfl iX7 (by decide) wd_296) rfl
    (sb_cons (pc2 := 63) (sx_aload_n (show decode cX7_addTape 62 = .ok (.aload_n 0, 1) by decide +kernel) rfl) rfl
    (sb_cons (pc2 := 66) (sx_getf (show decode cX7_addTape 63 = .ok (.getfield 15, 3) by decide +kernel) rfl iX7 (by decide) wd_289) rfl
    (sb_cons (pc2 := 67) (sx_iload_n (show decode cX7_addTape 66 = .ok (.iload_n 2, 1) by decide +kernel) rfl) rfl
    (sb_cons (pc2 := 68) (sx_iast (show decode cX7_addTape 67 = .ok (.iastore, 1) by decide +kernel)) rfl
    (sb_cons (pc2 := 69) (sx_aload_n (show decode cX7_addTape 68 = .ok (.aload_n 0, 1) by decide +kernel) rfl) rfl
    (sb_cons (pc2 := 72) (sx_getf (show decode cX7_addTape 69 = .ok (.getfield 38, 3) by decide +kernel) rfl iX7 (by decide) wd_297) rfl
    (sb_cons (pc2 := 73) (sx_aload_n (show decode cX7_addTape 72 = .ok (.aload_n 0, 1) by decide +kernel) rfl) rfl
    (sb_cons (pc2 := 76) (sx_getf (show decode cX7_addTape 73 = .ok (.getfield 15, 3) by decide +kernel) rfl iX7 (by decide) wd_289) rfl
    (sb_cons (pc2 := 77) (sx_iload_n (show decode cX7_addTape 76 = .ok (.iload_n 3, 1) by decide +kernel) rfl) rfl
    (sb_cons (pc2 := 78) (sx_iast (show decode cX7_addTape 77 = .ok (.iastore, 1) by decide +kernel)) rfl
    (sb_cons (pc2 := 79) (sx_aload_n (show decode cX7_addTape 78 = .ok (.aload_n 0, 1) by decide +kernel) rfl) rfl
    (sb_cons (pc2 := 80) (sx_dup (show decode cX7_addTape 79 = .ok (.dup, 1) by decide +kernel)) rfl
    (sb_cons (pc2 := 83) (sx_getf (show decode cX7_addTape 80 = .ok (.getfield 15, 3) by decide +kernel) rfl iX7 (by decide) wd_289) rfl
    (sb_cons (pc2 := 84) (sx_iconst (show decode cX7_addTape 83 = .ok (.iconst 1, 1) by decide +kernel) (by decide)) rfl
    (sb_cons (pc2 := 85) (sx_iadd (show decode cX7_addTape 84 = .ok (.iadd, 1) by decide +kernel)) rfl
    (sb_cons (pc2 := 88) (sx_puti (show decode cX7_addTape 85 = .ok (.putfield 15, 3) by decide +kernel) rfl iX7 tyX7_ok nmX7 (by decide) wd_289 rfl (Or.inl rfl)) rfl
    (sb_cons (pc2 := 89) (sx_aload_n (show decode cX7_addTape 88 = .ok (.aload_n 0, 1) by decide +kernel) rfl) rfl
    (sb_cons (pc2 := 92) (sx_cV (Y' := YX7_forgetRounds) (q := (RX7, TX7, 18)) rfl (show decode cX7_addTape 89 = .ok (.invokevirtual 68, 3) by decide +kernel) rfl rfl (px_w4 wd_308 wd_309 wd_310 wd_311) wd_307 ⟨by decide, by decide, by decide +kernel⟩ (by decide)) rfl
    (sb_cons (pc2 := 93) (sx_aload_n (show decode cX7_addTape 92 = .ok (.aload_n 0, 1) by decide +kernel) rfl) rfl
    (sb_cons (pc2 := 96) (sx_getf (show decode cX7_addTape 93 = .ok (.getfield 15, 3) by decide +kernel) rfl iX7 (by decide) wd_289) rfl
    (sb_cons (pc2 := 97) (sx_iconst (show decode cX7_addTape 96 = .ok (.iconst 1, 1) by decide +kernel) (by decide)) rfl
    (sb_cons (pc2 := 98) (sx_isub (show decode cX7_addTape 97 = .ok (.isub, 1) by decide +kernel)) rfl
    (sb_cons (pc2 := 99) (sx_reti (show decode cX7_addTape 98 = .ok (.ireturn, 1) by decide +kernel) rfl) rfl sb_nil)))))))))))))))))))))))))))))))
  ms_nil))))
def kX7_hasMark (X : px_X) : px_B := [(0, [], [px_iload 1, px_if1 (fun x => decide (x < 0)) 16, px_iload 1, px_aload 0, px_getf 7 0, px_if2 (fun x y => decide (y ≤ x)) 16, px_push (.int 1), px_goto 17], 16),
  (16, [false, false], [px_push (.int 0)], 17),
  (17, [false, false], [px_retz], 18)]
set_option maxRecDepth 100000 in
set_option maxHeartbeats 8000000 in
theorem sX7_hasMark (d : Nat) (X : px_X) : px_MS d X YX7_hasMark (kX7_hasMark X) :=
  (ms_cons
  (sb_cons (pc2 := 1) (sx_iload_n (show decode cX7_hasMark 0 = .ok (.iload_n 1, 1) by decide +kernel) rfl) rfl
    (sb_cons (pc2 := 4) (sx_if_lt (show decode cX7_hasMark 1 = .ok (.ifCond .lt 15, 3) by decide +kernel) (by decide)) rfl
    (sb_cons (pc2 := 5) (sx_iload_n (show decode cX7_hasMark 4 = .ok (.iload_n 1, 1) by decide +kernel) rfl) rfl
    (sb_cons (pc2 := 6) (sx_aload_n (show decode cX7_hasMark 5 = .ok (.aload_n 0, 1) by decide +kernel) rfl) rfl
    (sb_cons (pc2 := 9) (sx_getf (show decode cX7_hasMark 6 = .ok (.getfield 9, 3) by decide +kernel) rfl iX7 (by decide) wd_288) rfl
    (sb_cons (pc2 := 12) (sx_icmp_ge (show decode cX7_hasMark 9 = .ok (.if_icmp .ge 7, 3) by decide +kernel) (by decide)) rfl
    (sb_cons (pc2 := 13) (sx_iconst (show decode cX7_hasMark 12 = .ok (.iconst 1, 1) by decide +kernel) (by decide)) rfl
    (sb_cons (pc2 := 16) (px_snd_goto (show decode cX7_hasMark 13 = .ok (.goto 4, 3) by decide +kernel) (by decide)) rfl sb_nil))))))))
  (ms_cons
  (sb_cons (pc2 := 17) (sx_iconst (show decode cX7_hasMark 16 = .ok (.iconst 0, 1) by decide +kernel) (by decide)) rfl sb_nil)
  (ms_cons
  (sb_cons (pc2 := 18) (sx_retz (show decode cX7_hasMark 17 = .ok (.ireturn, 1) by decide +kernel) rfl) rfl sb_nil)
  ms_nil)))
def kX7_forgetRounds (X : px_X) : px_B := [(0, [], [px_aload 0, px_push (.int 0), px_puti 7 9, px_push (.int 0), px_istore 1], 7),
  (7, [true, true], [px_iload 1, px_aload 0, px_getf 7 1, px_if2 (fun x y => decide (y ≤ x)) 29, px_aload 0, px_getf 7 13, px_iload 1, px_push (.int 99), px_iast 0, px_iinc 1 1, px_goto 7], 29),
  (29, [false, false], [px_retv], 30)]
set_option maxRecDepth 100000 in
set_option maxHeartbeats 8000000 in
theorem sX7_forgetRounds (d : Nat) (X : px_X) : px_MS d X YX7_forgetRounds (kX7_forgetRounds X) :=
  (ms_cons
  (sb_cons (pc2 := 1) (sx_aload_n (show decode cX7_forgetRounds 0 = .ok (.aload_n 0, 1) by decide +kernel) rfl) rfl
    (sb_cons (pc2 := 2) (sx_iconst (show decode cX7_forgetRounds 1 = .ok (.iconst 0, 1) by decide +kernel) (by decide)) rfl
    (sb_cons (pc2 := 5) (sx_puti (show decode cX7_forgetRounds 2 = .ok (.putfield 41, 3) by decide +kernel) rfl iX7 tyX7_ok nmX7 (by decide) wd_298 rfl (Or.inl rfl)) rfl
    (sb_cons (pc2 := 6) (sx_iconst (show decode cX7_forgetRounds 5 = .ok (.iconst 0, 1) by decide +kernel) (by decide)) rfl
    (sb_cons (pc2 := 7) (sx_istore_n (show decode cX7_forgetRounds 6 = .ok (.istore_n 1, 1) by decide +kernel) rfl) rfl sb_nil)))))
  (ms_cons
  (sb_cons (pc2 := 8) (sx_iload_n (show decode cX7_forgetRounds 7 = .ok (.iload_n 1, 1) by decide +kernel) rfl) rfl
    (sb_cons (pc2 := 9) (sx_aload_n (show decode cX7_forgetRounds 8 = .ok (.aload_n 0, 1) by decide +kernel) rfl) rfl
    (sb_cons (pc2 := 12) (sx_getf (show decode cX7_forgetRounds 9 = .ok (.getfield 15, 3) by decide +kernel) rfl iX7 (by decide) wd_289) rfl
    (sb_cons (pc2 := 15) (sx_icmp_ge (show decode cX7_forgetRounds 12 = .ok (.if_icmp .ge 17, 3) by decide +kernel) (by decide)) rfl
    (sb_cons (pc2 := 16) (sx_aload_n (show decode cX7_forgetRounds 15 = .ok (.aload_n 0, 1) by decide +kernel) rfl) rfl
    (sb_cons (pc2 := 19) (sx_getf (show decode cX7_forgetRounds 16 = .ok (.getfield 53, 3) by decide +kernel) rfl iX7 (by decide) wd_302) rfl
    (sb_cons (pc2 := 20) (sx_iload_n (show decode cX7_forgetRounds 19 = .ok (.iload_n 1, 1) by decide +kernel) rfl) rfl
    (sb_cons (pc2 := 22) (sx_bipush (show decode cX7_forgetRounds 20 = .ok (.bipush 99, 2) by decide +kernel) (by decide)) rfl
    (sb_cons (pc2 := 23) (sx_iast (show decode cX7_forgetRounds 22 = .ok (.iastore, 1) by decide +kernel)) rfl
    (sb_cons (pc2 := 26) (sx_iinc (show decode cX7_forgetRounds 23 = .ok (.iinc 1 1, 3) by decide +kernel) (by decide)) rfl
    (sb_cons (pc2 := 29) (px_snd_goto (show decode cX7_forgetRounds 26 = .ok (.goto (-19), 3) by decide +kernel) (by decide)) rfl sb_nil)))))))))))
  (ms_cons
  (sb_cons (pc2 := 30) (sx_retv (show decode cX7_forgetRounds 29 = .ok (.return_, 1) by decide +kernel) rfl) rfl sb_nil)
  ms_nil)))
def kX7_changeBar (X : px_X) : px_B := [(0, [], [px_iload 1, px_push (.int 1), px_if2 (fun x y => decide (x < y)) 12, px_iload 1, px_push (.int 15000), px_if2 (fun x y => decide (x ≤ y)) 15], 12),
  (12, [false, false, false], [px_push (.int (-2)), px_reti], 15),
  (15, [true, true, false], [px_aload 0, px_getf 7 2, px_istore 2, px_aload 0, px_iload 1, px_puti 7 2, px_iload 2, px_reti], 27)]
set_option maxRecDepth 100000 in
set_option maxHeartbeats 8000000 in
theorem sX7_changeBar (d : Nat) (X : px_X) : px_MS d X YX7_changeBar (kX7_changeBar X) :=
  (ms_cons
  (sb_cons (pc2 := 1) (sx_iload_n (show decode cX7_changeBar 0 = .ok (.iload_n 1, 1) by decide +kernel) rfl) rfl
    (sb_cons (pc2 := 2) (sx_iconst (show decode cX7_changeBar 1 = .ok (.iconst 1, 1) by decide +kernel) (by decide)) rfl
    (sb_cons (pc2 := 5) (sx_icmp_lt (show decode cX7_changeBar 2 = .ok (.if_icmp .lt 10, 3) by decide +kernel) (by decide)) rfl
    (sb_cons (pc2 := 6) (sx_iload_n (show decode cX7_changeBar 5 = .ok (.iload_n 1, 1) by decide +kernel) rfl) rfl
    (sb_cons (pc2 := 9) (sx_sipush (show decode cX7_changeBar 6 = .ok (.sipush 15000, 3) by decide +kernel) (by decide)) rfl
    (sb_cons (pc2 := 12) (sx_icmp_le (show decode cX7_changeBar 9 = .ok (.if_icmp .le 6, 3) by decide +kernel) (by decide)) rfl sb_nil))))))
  (ms_cons
  (sb_cons (pc2 := 14) (sx_bipush (show decode cX7_changeBar 12 = .ok (.bipush (-2), 2) by decide +kernel) (by decide)) rfl
    (sb_cons (pc2 := 15) (sx_reti (show decode cX7_changeBar 14 = .ok (.ireturn, 1) by decide +kernel) rfl) rfl sb_nil))
  (ms_cons
  (sb_cons (pc2 := 16) (sx_aload_n (show decode cX7_changeBar 15 = .ok (.aload_n 0, 1) by decide +kernel) rfl) rfl
    (sb_cons (pc2 := 19) (sx_getf (show decode cX7_changeBar 16 = .ok (.getfield 18, 3) by decide +kernel) rfl iX7 (by decide) wd_290) rfl
    (sb_cons (pc2 := 20) (sx_istore_n (show decode cX7_changeBar 19 = .ok (.istore_n 2, 1) by decide +kernel) rfl) rfl
    (sb_cons (pc2 := 21) (sx_aload_n (show decode cX7_changeBar 20 = .ok (.aload_n 0, 1) by decide +kernel) rfl) rfl
    (sb_cons (pc2 := 22) (sx_iload_n (show decode cX7_changeBar 21 = .ok (.iload_n 1, 1) by decide +kernel) rfl) rfl
    (sb_cons (pc2 := 25) (sx_puti (show decode cX7_changeBar 22 = .ok (.putfield 18, 3) by decide +kernel) rfl iX7 tyX7_ok nmX7 (by decide) wd_290 rfl (Or.inl rfl)) rfl
    (sb_cons (pc2 := 26) (sx_iload_n (show decode cX7_changeBar 25 = .ok (.iload_n 2, 1) by decide +kernel) rfl) rfl
    (sb_cons (pc2 := 27) (sx_reti (show decode cX7_changeBar 26 = .ok (.ireturn, 1) by decide +kernel) rfl) rfl sb_nil))))))))
  ms_nil)))
def kX7_markTold (X : px_X) : px_B := [(0, [], [px_aload 0, px_iload 1, px_cV X 82 2 7, px_if1 (fun x => decide (x = 0)) 17, px_iload 2, px_if1 (fun x => decide (x < 0)) 17, px_iload 2, px_push (.int 1), px_if2 (fun x y => decide (x ≤ y)) 21], 17),
  (17, [false, false, false, false], [px_push (.long (-4611686018427387904)), px_retl], 21),
  (21, [true, true, true, false], [px_push (.int 8), px_aload 0, px_cV X 88 1 7, (px_i2 fun x y => x * y), px_iload 1, (px_i2 fun x y => x + y), px_istore 3, px_iload 2, px_if1 (fun x => decide (¬ x = 0)) 45, px_aload 0, px_getf 7 10, px_iload 3, px_iald 0, px_i2l, px_goto 52], 45),
  (45, [true, false, false, true], [px_aload 0, px_getf 7 11, px_iload 3, px_iald 0, px_i2l], 52),
  (52, [false, false, false, false], [px_retl], 53)]
set_option maxRecDepth 100000 in
set_option maxHeartbeats 8000000 in
theorem sX7_markTold (d : Nat) (X : px_X) : px_MS d X YX7_markTold (kX7_markTold X) :=
  (ms_cons
  (sb_cons (pc2 := 1) (sx_aload_n (show decode cX7_markTold 0 = .ok (.aload_n 0, 1) by decide +kernel) rfl) rfl
    (sb_cons (pc2 := 2) (sx_iload_n (show decode cX7_markTold 1 = .ok (.iload_n 1, 1) by decide +kernel) rfl) rfl
    (sb_cons (pc2 := 5) (sx_cV (Y' := YX7_hasMark) (q := (RX7, TX7, 18)) rfl (show decode cX7_markTold 2 = .ok (.invokevirtual 71, 3) by decide +kernel) rfl rfl (px_w4 wd_313 wd_314 wd_315 wd_311) wd_312 ⟨by decide, by decide, by decide +kernel⟩ (by decide)) rfl
    (sb_cons (pc2 := 8) (sx_if_eq (show decode cX7_markTold 5 = .ok (.ifCond .eq 12, 3) by decide +kernel) (by decide)) rfl
    (sb_cons (pc2 := 9) (sx_iload_n (show decode cX7_markTold 8 = .ok (.iload_n 2, 1) by decide +kernel) rfl) rfl
    (sb_cons (pc2 := 12) (sx_if_lt (show decode cX7_markTold 9 = .ok (.ifCond .lt 8, 3) by decide +kernel) (by decide)) rfl
    (sb_cons (pc2 := 13) (sx_iload_n (show decode cX7_markTold 12 = .ok (.iload_n 2, 1) by decide +kernel) rfl) rfl
    (sb_cons (pc2 := 14) (sx_iconst (show decode cX7_markTold 13 = .ok (.iconst 1, 1) by decide +kernel) (by decide)) rfl
    (sb_cons (pc2 := 17) (sx_icmp_le (show decode cX7_markTold 14 = .ok (.if_icmp .le 7, 3) by decide +kernel) (by decide)) rfl sb_nil)))))))))
  (ms_cons
  (sb_cons (pc2 := 20) (sx_ldc2 (show decode cX7_markTold 17 = .ok (.ldc2_w 75, 3) by decide +kernel) wd_316) rfl
    (sb_cons (pc2 := 21) (sx_retl (show decode cX7_markTold 20 = .ok (.lreturn, 1) by decide +kernel) rfl) rfl sb_nil))
  (ms_cons
  (sb_cons (pc2 := 23) (sx_bipush (show decode cX7_markTold 21 = .ok (.bipush 8, 2) by decide +kernel) (by decide)) rfl
    (sb_cons (pc2 := 24) (sx_aload_n (show decode cX7_markTold 23 = .ok (.aload_n 0, 1) by decide +kernel) rfl) rfl
    (sb_cons (pc2 := 27) (sx_cV (Y' := YX7_fittedRound) (q := (RX7, TX7, 18)) rfl (show decode cX7_markTold 24 = .ok (.invokevirtual 77, 3) by decide +kernel) rfl rfl (px_w4 wd_318 wd_319 wd_320 wd_311) wd_317 ⟨by decide, by decide, by decide +kernel⟩ (by decide)) rfl
    (sb_cons (pc2 := 28) (sx_imul (show decode cX7_markTold 27 = .ok (.imul, 1) by decide +kernel)) rfl
    (sb_cons (pc2 := 29) (sx_iload_n (show decode cX7_markTold 28 = .ok (.iload_n 1, 1) by decide +kernel) rfl) rfl
    (sb_cons (pc2 := 30) (sx_iadd (show decode cX7_markTold 29 = .ok (.iadd, 1) by decide +kernel)) rfl
    (sb_cons (pc2 := 31) (sx_istore_n (show decode cX7_markTold 30 = .ok (.istore_n 3, 1) by decide +kernel) rfl) rfl
    (sb_cons (pc2 := 32) (sx_iload_n (show decode cX7_markTold 31 = .ok (.iload_n 2, 1) by decide +kernel) rfl) rfl
    (sb_cons (pc2 := 35) (sx_if_ne (show decode cX7_markTold 32 = .ok (.ifCond .ne 13, 3) by decide +kernel) (by decide)) rfl
    (sb_cons (pc2 := 36) (sx_aload_n (show decode cX7_markTold 35 = .ok (.aload_n 0, 1) by decide +kernel) rfl) rfl
    (sb_cons (pc2 := 39) (sx_getf (show decode cX7_markTold 36 = .ok (.getfield 44, 3) by decide +kernel) rfl iX7 (by decide) wd_299) rfl
    (sb_cons (pc2 := 40) (sx_iload_n (show decode cX7_markTold 39 = .ok (.iload_n 3, 1) by decide +kernel) rfl) rfl
    (sb_cons (pc2 := 41) (sx_iald (show decode cX7_markTold 40 = .ok (.iaload, 1) by decide +kernel)) rfl
    (sb_cons (pc2 := 42) (sx_i2l (show decode cX7_markTold 41 = .ok (.i2l, 1) by decide +kernel)) rfl
    (sb_cons (pc2 := 45) (px_snd_goto (show decode cX7_markTold 42 = .ok (.goto 10, 3) by decide +kernel) (by decide)) rfl sb_nil)))))))))))))))
  (ms_cons
  (sb_cons (pc2 := 46) (sx_aload_n (show decode cX7_markTold 45 = .ok (.aload_n 0, 1) by decide +kernel) rfl) rfl
    (sb_cons (pc2 := 49) (sx_getf (show decode cX7_markTold 46 = .ok (.getfield 47, 3) by decide +kernel) rfl iX7 (by decide) wd_300) rfl
    (sb_cons (pc2 := 50) (sx_iload_n (show decode cX7_markTold 49 = .ok (.iload_n 3, 1) by decide +kernel) rfl) rfl
    (sb_cons (pc2 := 51) (sx_iald (show decode cX7_markTold 50 = .ok (.iaload, 1) by decide +kernel)) rfl
    (sb_cons (pc2 := 52) (sx_i2l (show decode cX7_markTold 51 = .ok (.i2l, 1) by decide +kernel)) rfl sb_nil)))))
  (ms_cons
  (sb_cons (pc2 := 53) (sx_retl (show decode cX7_markTold 52 = .ok (.lreturn, 1) by decide +kernel) rfl) rfl sb_nil)
  ms_nil)))))
def kX7_tapeItem (X : px_X) : px_B := [(0, [], [px_iload 1, px_if1 (fun x => decide (x < 0)) 12, px_iload 1, px_aload 0, px_getf 7 1, px_if2 (fun x y => decide (x < y)) 16], 12),
  (12, [false, false, false], [px_push (.long (-4611686018427387904)), px_retl], 16),
  (16, [true, true, true], [px_iload 2, px_sw [(0, 52), (1, 60), (2, 68), (3, 76), (4, 94)] 105], 52),
  (52, [true, true, false], [px_aload 0, px_getf 7 6, px_iload 1, px_iald 0, px_i2l, px_retl], 60),
  (60, [true, true, false], [px_aload 0, px_getf 7 7, px_iload 1, px_iald 0, px_i2l, px_retl], 68),
  (68, [true, true, false], [px_aload 0, px_getf 7 8, px_iload 1, px_iald 0, px_i2l, px_retl], 76),
  (76, [true, true, false], [px_aload 0, px_iload 1, px_aload 0, px_cV X 88 1 7, px_cV X 89 3 7, px_if1 (fun x => decide (x = 0)) 92, px_push (.long 1), px_goto 93], 92),
  (92, [false, false, false], [px_push (.long 0)], 93),
  (93, [false, false, false], [px_retl], 94),
  (94, [true, true, false], [px_aload 0, px_iload 1, px_aload 0, px_cV X 88 1 7, px_cV X 90 3 7, px_i2l, px_retl], 105),
  (105, [false, false, false], [px_push (.long (-4611686018427387904)), px_retl], 109)]
set_option maxRecDepth 100000 in
set_option maxHeartbeats 8000000 in
theorem sX7_tapeItem (d : Nat) (X : px_X) : px_MS d X YX7_tapeItem (kX7_tapeItem X) :=
  (ms_cons
  (sb_cons (pc2 := 1) (sx_iload_n (show decode cX7_tapeItem 0 = .ok (.iload_n 1, 1) by decide +kernel) rfl) rfl
    (sb_cons (pc2 := 4) (sx_if_lt (show decode cX7_tapeItem 1 = .ok (.ifCond .lt 11, 3) by decide +kernel) (by decide)) rfl
    (sb_cons (pc2 := 5) (sx_iload_n (show decode cX7_tapeItem 4 = .ok (.iload_n 1, 1) by decide +kernel) rfl) rfl
    (sb_cons (pc2 := 6) (sx_aload_n (show decode cX7_tapeItem 5 = .ok (.aload_n 0, 1) by decide +kernel) rfl) rfl
    (sb_cons (pc2 := 9) (sx_getf (show decode cX7_tapeItem 6 = .ok (.getfield 15, 3) by decide +kernel) rfl iX7 (by decide) wd_289) rfl
    (sb_cons (pc2 := 12) (sx_icmp_lt (show decode cX7_tapeItem 9 = .ok (.if_icmp .lt 7, 3) by decide +kernel) (by decide)) rfl sb_nil))))))
  (ms_cons
  (sb_cons (pc2 := 15) (sx_ldc2 (show decode cX7_tapeItem 12 = .ok (.ldc2_w 75, 3) by decide +kernel) wd_316) rfl
    (sb_cons (pc2 := 16) (sx_retl (show decode cX7_tapeItem 15 = .ok (.lreturn, 1) by decide +kernel) rfl) rfl sb_nil))
  (ms_cons
  (sb_cons (pc2 := 17) (sx_iload_n (show decode cX7_tapeItem 16 = .ok (.iload_n 2, 1) by decide +kernel) rfl) rfl
    (sb_cons (pc2 := 52) (sx_tsw (show decode cX7_tapeItem 17 = .ok (.tableswitch 88 0 4 #[35, 43, 51, 59, 77], 35) by decide +kernel) (by decide) (by decide +kernel) (by decide +kernel)) rfl sb_nil))
  (ms_cons
  (sb_cons (pc2 := 53) (sx_aload_n (show decode cX7_tapeItem 52 = .ok (.aload_n 0, 1) by decide +kernel) rfl) rfl
    (sb_cons (pc2 := 56) (sx_getf (show decode cX7_tapeItem 53 = .ok (.getfield 32, 3) by decide +kernel) rfl iX7 (by decide) wd_295) rfl
    (sb_cons (pc2 := 57) (sx_iload_n (show decode cX7_tapeItem 56 = .ok (.iload_n 1, 1) by decide +kernel) rfl) rfl
    (sb_cons (pc2 := 58) (sx_iald (show decode cX7_tapeItem 57 = .ok (.iaload, 1) by decide +kernel)) rfl
    (sb_cons (pc2 := 59) (sx_i2l (show decode cX7_tapeItem 58 = .ok (.i2l, 1) by decide +kernel)) rfl
    (sb_cons (pc2 := 60) (sx_retl (show decode cX7_tapeItem 59 = .ok (.lreturn, 1) by decide +kernel) rfl) rfl sb_nil))))))
  (ms_cons
  (sb_cons (pc2 := 61) (sx_aload_n (show decode cX7_tapeItem 60 = .ok (.aload_n 0, 1) by decide +kernel) rfl) rfl
    (sb_cons (pc2 := 64) (sx_getf (show decode cX7_tapeItem 61 = .ok (.getfield 35, 3) by decide +kernel) rfl iX7 (by decide) wd_296) rfl
    (sb_cons (pc2 := 65) (sx_iload_n (show decode cX7_tapeItem 64 = .ok (.iload_n 1, 1) by decide +kernel) rfl) rfl
    (sb_cons (pc2 := 66) (sx_iald (show decode cX7_tapeItem 65 = .ok (.iaload, 1) by decide +kernel)) rfl
    (sb_cons (pc2 := 67) (sx_i2l (show decode cX7_tapeItem 66 = .ok (.i2l, 1) by decide +kernel)) rfl
    (sb_cons (pc2 := 68) (sx_retl (show decode cX7_tapeItem 67 = .ok (.lreturn, 1) by decide +kernel) rfl) rfl sb_nil))))))
  (ms_cons
  (sb_cons (pc2 := 69) (sx_aload_n (show decode cX7_tapeItem 68 = .ok (.aload_n 0, 1) by decide +kernel) rfl) rfl
    (sb_cons (pc2 := 72) (sx_getf (show decode cX7_tapeItem 69 = .ok (.getfield 38, 3) by decide +kernel) rfl iX7 (by decide) wd_297) rfl
    (sb_cons (pc2 := 73) (sx_iload_n (show decode cX7_tapeItem 72 = .ok (.iload_n 1, 1) by decide +kernel) rfl) rfl
    (sb_cons (pc2 := 74) (sx_iald (show decode cX7_tapeItem 73 = .ok (.iaload, 1) by decide +kernel)) rfl
    (sb_cons (pc2 := 75) (sx_i2l (show decode cX7_tapeItem 74 = .ok (.i2l, 1) by decide +kernel)) rfl
    (sb_cons (pc2 := 76) (sx_retl (show decode cX7_tapeItem 75 = .ok (.lreturn, 1) by decide +kernel) rfl) rfl sb_nil))))))
  (ms_cons
  (sb_cons (pc2 := 77) (sx_aload_n (show decode cX7_tapeItem 76 = .ok (.aload_n 0, 1) by decide +kernel) rfl) rfl
    (sb_cons (pc2 := 78) (sx_iload_n (show decode cX7_tapeItem 77 = .ok (.iload_n 1, 1) by decide +kernel) rfl) rfl
    (sb_cons (pc2 := 79) (sx_aload_n (show decode cX7_tapeItem 78 = .ok (.aload_n 0, 1) by decide +kernel) rfl) rfl
    (sb_cons (pc2 := 82) (sx_cV (Y' := YX7_fittedRound) (q := (RX7, TX7, 18)) rfl (show decode cX7_tapeItem 79 = .ok (.invokevirtual 77, 3) by decide +kernel) rfl rfl (px_w4 wd_318 wd_319 wd_320 wd_311) wd_317 ⟨by decide, by decide, by decide +kernel⟩ (by decide)) rfl
    (sb_cons (pc2 := 85) (sx_cV (Y' := YX7_isOut) (q := (RX7, TX7, 18)) rfl (show decode cX7_tapeItem 82 = .ok (.invokevirtual 81, 3) by decide +kernel) rfl rfl (px_w4 wd_322 wd_323 wd_324 wd_311) wd_321 ⟨by decide, by decide, by decide +kernel⟩ (by decide)) rfl
    (sb_cons (pc2 := 88) (sx_if_eq (show decode cX7_tapeItem 85 = .ok (.ifCond .eq 7, 3) by decide +kernel) (by decide)) rfl
    (sb_cons (pc2 := 89) (sx_lconst (show decode cX7_tapeItem 88 = .ok (.lconst 1, 1) by decide +kernel) (by decide)) rfl
    (sb_cons (pc2 := 92) (px_snd_goto (show decode cX7_tapeItem 89 = .ok (.goto 4, 3) by decide +kernel) (by decide)) rfl sb_nil))))))))
  (ms_cons
  (sb_cons (pc2 := 93) (sx_lconst (show decode cX7_tapeItem 92 = .ok (.lconst 0, 1) by decide +kernel) (by decide)) rfl sb_nil)
  (ms_cons
  (sb_cons (pc2 := 94) (sx_retl (show decode cX7_tapeItem 93 = .ok (.lreturn, 1) by decide +kernel) rfl) rfl sb_nil)
  (ms_cons
  (sb_cons (pc2 := 95) (sx_aload_n (show decode cX7_tapeItem 94 = .ok (.aload_n 0, 1) by decide +kernel) rfl) rfl
    (sb_cons (pc2 := 96) (sx_iload_n (show decode cX7_tapeItem 95 = .ok (.iload_n 1, 1) by decide +kernel) rfl) rfl
    (sb_cons (pc2 := 97) (sx_aload_n (show decode cX7_tapeItem 96 = .ok (.aload_n 0, 1) by decide +kernel) rfl) rfl
    (sb_cons (pc2 := 100) (sx_cV (Y' := YX7_fittedRound) (q := (RX7, TX7, 18)) rfl (show decode cX7_tapeItem 97 = .ok (.invokevirtual 77, 3) by decide +kernel) rfl rfl (px_w4 wd_318 wd_319 wd_320 wd_311) wd_317 ⟨by decide, by decide, by decide +kernel⟩ (by decide)) rfl
    (sb_cons (pc2 := 103) (sx_cV (Y' := YX7_miss) (q := (RX7, TX7, 18)) rfl (show decode cX7_tapeItem 100 = .ok (.invokevirtual 85, 3) by decide +kernel) rfl rfl (px_w4 wd_326 wd_327 wd_328 wd_311) wd_325 ⟨by decide, by decide, by decide +kernel⟩ (by decide)) rfl
    (sb_cons (pc2 := 104) (sx_i2l (show decode cX7_tapeItem 103 = .ok (.i2l, 1) by decide +kernel)) rfl
    (sb_cons (pc2 := 105) (sx_retl (show decode cX7_tapeItem 104 = .ok (.lreturn, 1) by decide +kernel) rfl) rfl sb_nil)))))))
  (ms_cons
  (sb_cons (pc2 := 108) (sx_ldc2 (show decode cX7_tapeItem 105 = .ok (.ldc2_w 75, 3) by decide +kernel) wd_316) rfl
    (sb_cons (pc2 := 109) (sx_retl (show decode cX7_tapeItem 108 = .ok (.lreturn, 1) by decide +kernel) rfl) rfl sb_nil))
  ms_nil)))))))))))
def kX7_squares (X : px_X) : px_B := [(0, [], [px_aload 0, px_cV X 88 1 7, px_istore 1, px_push (.long 0), px_lstore 2, px_push (.int 0), px_istore 4], 10),
  (10, [true, true, true, false, true, false, false], [px_iload 4, px_aload 0, px_getf 7 1, px_if2 (fun x y => decide (y ≤ x)) 53, px_aload 0, px_iload 4, px_iload 1, px_cV X 89 3 7, px_if1 (fun x => decide (¬ x = 0)) 47, px_aload 0, px_iload 4, px_iload 1, px_cV X 90 3 7, px_i2l, px_lstore 5, px_lload 2, px_lload 5, px_lload 5, (px_l2 fun x y => x * y), (px_l2 fun x y => x + y), px_lstore 2], 47),
  (47, [true, true, true, false, true, false, false], [px_iinc 4 1, px_goto 10], 53),
  (53, [false, false, true, false, false, false, false], [px_lload 2, px_retl], 55)]
set_option maxRecDepth 100000 in
set_option maxHeartbeats 8000000 in
theorem sX7_squares (d : Nat) (X : px_X) : px_MS d X YX7_squares (kX7_squares X) :=
  (ms_cons
  (sb_cons (pc2 := 1) (sx_aload_n (show decode cX7_squares 0 = .ok (.aload_n 0, 1) by decide +kernel) rfl) rfl
    (sb_cons (pc2 := 4) (sx_cV (Y' := YX7_fittedRound) (q := (RX7, TX7, 18)) rfl (show decode cX7_squares 1 = .ok (.invokevirtual 77, 3) by decide +kernel) rfl rfl (px_w4 wd_318 wd_319 wd_320 wd_311) wd_317 ⟨by decide, by decide, by decide +kernel⟩ (by decide)) rfl
    (sb_cons (pc2 := 5) (sx_istore_n (show decode cX7_squares 4 = .ok (.istore_n 1, 1) by decide +kernel) rfl) rfl
    (sb_cons (pc2 := 6) (sx_lconst (show decode cX7_squares 5 = .ok (.lconst 0, 1) by decide +kernel) (by decide)) rfl
    (sb_cons (pc2 := 7) (sx_lstore_n (show decode cX7_squares 6 = .ok (.lstore_n 2, 1) by decide +kernel) rfl) rfl
    (sb_cons (pc2 := 8) (sx_iconst (show decode cX7_squares 7 = .ok (.iconst 0, 1) by decide +kernel) (by decide)) rfl
    (sb_cons (pc2 := 10) (sx_istore (show decode cX7_squares 8 = .ok (.istore 4, 2) by decide +kernel)) rfl sb_nil)))))))
  (ms_cons
  (sb_cons (pc2 := 12) (sx_iload (show decode cX7_squares 10 = .ok (.iload 4, 2) by decide +kernel)) rfl
    (sb_cons (pc2 := 13) (sx_aload_n (show decode cX7_squares 12 = .ok (.aload_n 0, 1) by decide +kernel) rfl) rfl
    (sb_cons (pc2 := 16) (sx_getf (show decode cX7_squares 13 = .ok (.getfield 15, 3) by decide +kernel) rfl iX7 (by decide) wd_289) rfl
    (sb_cons (pc2 := 19) (sx_icmp_ge (show decode cX7_squares 16 = .ok (.if_icmp .ge 37, 3) by decide +kernel) (by decide)) rfl
    (sb_cons (pc2 := 20) (sx_aload_n (show decode cX7_squares 19 = .ok (.aload_n 0, 1) by decide +kernel) rfl) rfl
    (sb_cons (pc2 := 22) (sx_iload (show decode cX7_squares 20 = .ok (.iload 4, 2) by decide +kernel)) rfl
    (sb_cons (pc2 := 23) (sx_iload_n (show decode cX7_squares 22 = .ok (.iload_n 1, 1) by decide +kernel) rfl) rfl
    (sb_cons (pc2 := 26) (sx_cV (Y' := YX7_isOut) (q := (RX7, TX7, 18)) rfl (show decode cX7_squares 23 = .ok (.invokevirtual 81, 3) by decide +kernel) rfl rfl (px_w4 wd_322 wd_323 wd_324 wd_311) wd_321 ⟨by decide, by decide, by decide +kernel⟩ (by decide)) rfl
    (sb_cons (pc2 := 29) (sx_if_ne (show decode cX7_squares 26 = .ok (.ifCond .ne 21, 3) by decide +kernel) (by decide)) rfl
    (sb_cons (pc2 := 30) (sx_aload_n (show decode cX7_squares 29 = .ok (.aload_n 0, 1) by decide +kernel) rfl) rfl
    (sb_cons (pc2 := 32) (sx_iload (show decode cX7_squares 30 = .ok (.iload 4, 2) by decide +kernel)) rfl
    (sb_cons (pc2 := 33) (sx_iload_n (show decode cX7_squares 32 = .ok (.iload_n 1, 1) by decide +kernel) rfl) rfl
    (sb_cons (pc2 := 36) (sx_cV (Y' := YX7_miss) (q := (RX7, TX7, 18)) rfl (show decode cX7_squares 33 = .ok (.invokevirtual 85, 3) by decide +kernel) rfl rfl (px_w4 wd_326 wd_327 wd_328 wd_311) wd_325 ⟨by decide, by decide, by decide +kernel⟩ (by decide)) rfl
    (sb_cons (pc2 := 37) (sx_i2l (show decode cX7_squares 36 = .ok (.i2l, 1) by decide +kernel)) rfl
    (sb_cons (pc2 := 39) (sx_lstore (show decode cX7_squares 37 = .ok (.lstore 5, 2) by decide +kernel)) rfl
    (sb_cons (pc2 := 40) (sx_lload_n (show decode cX7_squares 39 = .ok (.lload_n 2, 1) by decide +kernel) rfl) rfl
    (sb_cons (pc2 := 42) (sx_lload (show decode cX7_squares 40 = .ok (.lload 5, 2) by decide +kernel)) rfl
    (sb_cons (pc2 := 44) (sx_lload (show decode cX7_squares 42 = .ok (.lload 5, 2) by decide +kernel)) rfl
    (sb_cons (pc2 := 45) (sx_lmul (show decode cX7_squares 44 = .ok (.lmul, 1) by decide +kernel)) rfl
    (sb_cons (pc2 := 46) (sx_ladd (show decode cX7_squares 45 = .ok (.ladd, 1) by decide +kernel)) rfl
    (sb_cons (pc2 := 47) (sx_lstore_n (show decode cX7_squares 46 = .ok (.lstore_n 2, 1) by decide +kernel) rfl) rfl sb_nil)))))))))))))))))))))
  (ms_cons
  (sb_cons (pc2 := 50) (sx_iinc (show decode cX7_squares 47 = .ok (.iinc 4 1, 3) by decide +kernel) (by decide)) rfl
    (sb_cons (pc2 := 53) (px_snd_goto (show decode cX7_squares 50 = .ok (.goto (-40), 3) by decide +kernel) (by decide)) rfl sb_nil))
  (ms_cons
  (sb_cons (pc2 := 54) (sx_lload_n (show decode cX7_squares 53 = .ok (.lload_n 2, 1) by decide +kernel) rfl) rfl
    (sb_cons (pc2 := 55) (sx_retl (show decode cX7_squares 54 = .ok (.lreturn, 1) by decide +kernel) rfl) rfl sb_nil))
  ms_nil))))
def kX7_fittedRound (X : px_X) : px_B := [(0, [], [px_push (.int 0), px_istore 1], 2),
  (2, [true, true], [px_iload 1, px_aload 0, px_getf 7 1, px_if2 (fun x y => decide (y ≤ x)) 36, px_aload 0, px_iload 1, px_cV X 92 2 7, px_aload 0, px_getf 7 12, px_iload 1, px_iald 0, px_aload 0, px_getf 7 2, px_if2 (fun x y => decide (y < x)) 30, px_iload 1, px_reti], 30),
  (30, [true, true], [px_iinc 1 1, px_goto 2], 36),
  (36, [true, false], [px_aload 0, px_aload 0, px_getf 7 1, px_cV X 92 2 7, px_aload 0, px_getf 7 1, px_reti], 49)]
set_option maxRecDepth 100000 in
set_option maxHeartbeats 8000000 in
theorem sX7_fittedRound (d : Nat) (X : px_X) : px_MS d X YX7_fittedRound (kX7_fittedRound X) :=
  (ms_cons
  (sb_cons (pc2 := 1) (sx_iconst (show decode cX7_fittedRound 0 = .ok (.iconst 0, 1) by decide +kernel) (by decide)) rfl
    (sb_cons (pc2 := 2) (sx_istore_n (show decode cX7_fittedRound 1 = .ok (.istore_n 1, 1) by decide +kernel) rfl) rfl sb_nil))
  (ms_cons
  (sb_cons (pc2 := 3) (sx_iload_n (show decode cX7_fittedRound 2 = .ok (.iload_n 1, 1) by decide +kernel) rfl) rfl
    (sb_cons (pc2 := 4) (sx_aload_n (show decode cX7_fittedRound 3 = .ok (.aload_n 0, 1) by decide +kernel) rfl) rfl
    (sb_cons (pc2 := 7) (sx_getf (show decode cX7_fittedRound 4 = .ok (.getfield 15, 3) by decide +kernel) rfl iX7 (by decide) wd_289) rfl
    (sb_cons (pc2 := 10) (sx_icmp_ge (show decode cX7_fittedRound 7 = .ok (.if_icmp .ge 29, 3) by decide +kernel) (by decide)) rfl
    (sb_cons (pc2 := 11) (sx_aload_n (show decode cX7_fittedRound 10 = .ok (.aload_n 0, 1) by decide +kernel) rfl) rfl
    (sb_cons (pc2 := 12) (sx_iload_n (show decode cX7_fittedRound 11 = .ok (.iload_n 1, 1) by decide +kernel) rfl) rfl
    (sb_cons (pc2 := 15) (sx_cV (Y' := YX7_fitIfNew) (q := (RX7, TX7, 18)) rfl (show decode cX7_fittedRound 12 = .ok (.invokevirtual 89, 3) by decide +kernel) rfl rfl (px_w4 wd_330 wd_331 wd_332 wd_311) wd_329 ⟨by decide, by decide, by decide +kernel⟩ (by decide)) rfl
    (sb_cons (pc2 := 16) (sx_aload_n (show decode cX7_fittedRound 15 = .ok (.aload_n 0, 1) by decide +kernel) rfl) rfl
    (sb_cons (pc2 := 19) (sx_getf (show decode cX7_fittedRound 16 = .ok (.getfield 50, 3) by decide +kernel) rfl iX7 (by decide) wd_301) rfl
    (sb_cons (pc2 := 20) (sx_iload_n (show decode cX7_fittedRound 19 = .ok (.iload_n 1, 1) by decide +kernel) rfl) rfl
    (sb_cons (pc2 := 21) (sx_iald (show decode cX7_fittedRound 20 = .ok (.iaload, 1) by decide +kernel)) rfl
    (sb_cons (pc2 := 22) (sx_aload_n (show decode cX7_fittedRound 21 = .ok (.aload_n 0, 1) by decide +kernel) rfl) rfl
    (sb_cons (pc2 := 25) (sx_getf (show decode cX7_fittedRound 22 = .ok (.getfield 18, 3) by decide +kernel) rfl iX7 (by decide) wd_290) rfl
    (sb_cons (pc2 := 28) (sx_icmp_gt (show decode cX7_fittedRound 25 = .ok (.if_icmp .gt 5, 3) by decide +kernel) (by decide)) rfl
    (sb_cons (pc2 := 29) (sx_iload_n (show decode cX7_fittedRound 28 = .ok (.iload_n 1, 1) by decide +kernel) rfl) rfl
    (sb_cons (pc2 := 30) (sx_reti (show decode cX7_fittedRound 29 = .ok (.ireturn, 1) by decide +kernel) rfl) rfl sb_nil))))))))))))))))
  (ms_cons
  (sb_cons (pc2 := 33) (sx_iinc (show decode cX7_fittedRound 30 = .ok (.iinc 1 1, 3) by decide +kernel) (by decide)) rfl
    (sb_cons (pc2 := 36) (px_snd_goto (show decode cX7_fittedRound 33 = .ok (.goto (-31), 3) by decide +kernel) (by decide)) rfl sb_nil))
  (ms_cons
  (sb_cons (pc2 := 37) (sx_aload_n (show decode cX7_fittedRound 36 = .ok (.aload_n 0, 1) by decide +kernel) rfl) rfl
    (sb_cons (pc2 := 38) (sx_aload_n (show decode cX7_fittedRound 37 = .ok (.aload_n 0, 1) by decide +kernel) rfl) rfl
    (sb_cons (pc2 := 41) (sx_getf (show decode cX7_fittedRound 38 = .ok (.getfield 15, 3) by decide +kernel) rfl iX7 (by decide) wd_289) rfl
    (sb_cons (pc2 := 44) (sx_cV (Y' := YX7_fitIfNew) (q := (RX7, TX7, 18)) rfl (show decode cX7_fittedRound 41 = .ok (.invokevirtual 89, 3) by decide +kernel) rfl rfl (px_w4 wd_330 wd_331 wd_332 wd_311) wd_329 ⟨by decide, by decide, by decide +kernel⟩ (by decide)) rfl
    (sb_cons (pc2 := 45) (sx_aload_n (show decode cX7_fittedRound 44 = .ok (.aload_n 0, 1) by decide +kernel) rfl) rfl
    (sb_cons (pc2 := 48) (sx_getf (show decode cX7_fittedRound 45 = .ok (.getfield 15, 3) by decide +kernel) rfl iX7 (by decide) wd_289) rfl
    (sb_cons (pc2 := 49) (sx_reti (show decode cX7_fittedRound 48 = .ok (.ireturn, 1) by decide +kernel) rfl) rfl sb_nil)))))))
  ms_nil))))
def kX7_isOut (X : px_X) : px_B := [(0, [], [px_aload 0, px_getf 7 13, px_iload 1, px_iald 0, px_iload 2, px_if2 (fun x y => decide (y < x)) 14, px_push (.int 1), px_goto 15], 14),
  (14, [false, false, false], [px_push (.int 0)], 15),
  (15, [false, false, false], [px_retz], 16)]
set_option maxRecDepth 100000 in
set_option maxHeartbeats 8000000 in
theorem sX7_isOut (d : Nat) (X : px_X) : px_MS d X YX7_isOut (kX7_isOut X) :=
  (ms_cons
  (sb_cons (pc2 := 1) (sx_aload_n (show decode cX7_isOut 0 = .ok (.aload_n 0, 1) by decide +kernel) rfl) rfl
    (sb_cons (pc2 := 4) (sx_getf (show decode cX7_isOut 1 = .ok (.getfield 53, 3) by decide +kernel) rfl iX7 (by decide) wd_302) rfl
    (sb_cons (pc2 := 5) (sx_iload_n (show decode cX7_isOut 4 = .ok (.iload_n 1, 1) by decide +kernel) rfl) rfl
    (sb_cons (pc2 := 6) (sx_iald (show decode cX7_isOut 5 = .ok (.iaload, 1) by decide +kernel)) rfl
    (sb_cons (pc2 := 7) (sx_iload_n (show decode cX7_isOut 6 = .ok (.iload_n 2, 1) by decide +kernel) rfl) rfl
    (sb_cons (pc2 := 10) (sx_icmp_gt (show decode cX7_isOut 7 = .ok (.if_icmp .gt 7, 3) by decide +kernel) (by decide)) rfl
    (sb_cons (pc2 := 11) (sx_iconst (show decode cX7_isOut 10 = .ok (.iconst 1, 1) by decide +kernel) (by decide)) rfl
    (sb_cons (pc2 := 14) (px_snd_goto (show decode cX7_isOut 11 = .ok (.goto 4, 3) by decide +kernel) (by decide)) rfl sb_nil))))))))
  (ms_cons
  (sb_cons (pc2 := 15) (sx_iconst (show decode cX7_isOut 14 = .ok (.iconst 0, 1) by decide +kernel) (by decide)) rfl sb_nil)
  (ms_cons
  (sb_cons (pc2 := 16) (sx_retz (show decode cX7_isOut 15 = .ok (.ireturn, 1) by decide +kernel) rfl) rfl sb_nil)
  ms_nil)))
def kX7_miss (X : px_X) : px_B := [(0, [], [px_push (.int 8), px_iload 2, (px_i2 fun x y => x * y), px_aload 0, px_getf 7 6, px_iload 1, px_iald 0, (px_i2 fun x y => x + y), px_istore 3, px_push (.int 8), px_iload 2, (px_i2 fun x y => x * y), px_aload 0, px_getf 7 7, px_iload 1, px_iald 0, (px_i2 fun x y => x + y), px_istore 4, px_aload 0, px_getf 7 10, px_iload 3, px_iald 0, px_aload 0, px_getf 7 10, px_iload 4, px_iald 0, (px_i2 fun x y => x - y), px_aload 0, px_getf 7 11, px_iload 3, px_iald 0, px_aload 0, px_getf 7 11, px_iload 4, px_iald 0, (px_i2 fun x y => x - y), px_aload 0, px_getf 7 8, px_iload 1, px_iald 0, px_cS X 91 3, px_aload 0, px_getf 7 8, px_iload 1, px_iald 0, (px_i2 fun x y => x - y), px_reti], 70)]
set_option maxRecDepth 100000 in
set_option maxHeartbeats 8000000 in
theorem sX7_miss (d : Nat) (X : px_X) : px_MS d X YX7_miss (kX7_miss X) :=
  (ms_cons
  (sb_cons (pc2 := 2) (sx_bipush (show decode cX7_miss 0 = .ok (.bipush 8, 2) by decide +kernel) (by decide)) rfl
    (sb_cons (pc2 := 3) (sx_iload_n (show decode cX7_miss 2 = .ok (.iload_n 2, 1) by decide +kernel) rfl) rfl
    (sb_cons (pc2 := 4) (sx_imul (show decode cX7_miss 3 = .ok (.imul, 1) by decide +kernel)) rfl
    (sb_cons (pc2 := 5) (sx_aload_n (show decode cX7_miss 4 = .ok (.aload_n 0, 1) by decide +kernel) rfl) rfl
    (sb_cons (pc2 := 8) (sx_getf (show decode cX7_miss 5 = .ok (.getfield 32, 3) by decide +kernel) rfl iX7 (by decide) wd_295) rfl
    (sb_cons (pc2 := 9) (sx_iload_n (show decode cX7_miss 8 = .ok (.iload_n 1, 1) by decide +kernel) rfl) rfl
    (sb_cons (pc2 := 10) (sx_iald (show decode cX7_miss 9 = .ok (.iaload, 1) by decide +kernel)) rfl
    (sb_cons (pc2 := 11) (sx_iadd (show decode cX7_miss 10 = .ok (.iadd, 1) by decide +kernel)) rfl
    (sb_cons (pc2 := 12) (sx_istore_n (show decode cX7_miss 11 = .ok (.istore_n 3, 1) by decide +kernel) rfl) rfl
    (sb_cons (pc2 := 14) (sx_bipush (show decode cX7_miss 12 = .ok (.bipush 8, 2) by decide +kernel) (by decide)) rfl
    (sb_cons (pc2 := 15) (sx_iload_n (show decode cX7_miss 14 = .ok (.iload_n 2, 1) by decide +kernel) rfl) rfl
    (sb_cons (pc2 := 16) (sx_imul (show decode cX7_miss 15 = .ok (.imul, 1) by decide +kernel)) rfl
    (sb_cons (pc2 := 17) (sx_aload_n (show decode cX7_miss 16 = .ok (.aload_n 0, 1) by decide +kernel) rfl) rfl
    (sb_cons (pc2 := 20) (sx_getf (show decode cX7_miss 17 = .ok (.getfield 35, 3) by decide +kernel) rfl iX7 (by decide) wd_296) rfl
    (sb_cons (pc2 := 21) (sx_iload_n (show decode cX7_miss 20 = .ok (.iload_n 1, 1) by decide +kernel) rfl) rfl
    (sb_cons (pc2 := 22) (sx_iald (show decode cX7_miss 21 = .ok (.iaload, 1) by decide +kernel)) rfl
    (sb_cons (pc2 := 23) (sx_iadd (show decode cX7_miss 22 = .ok (.iadd, 1) by decide +kernel)) rfl
    (sb_cons (pc2 := 25) (sx_istore (show decode cX7_miss 23 = .ok (.istore 4, 2) by decide +kernel)) rfl
    (sb_cons (pc2 := 26) (sx_aload_n (show decode cX7_miss 25 = .ok (.aload_n 0, 1) by decide +kernel) rfl) rfl
    (sb_cons (pc2 := 29) (sx_getf (show decode cX7_miss 26 = .ok (.getfield 44, 3) by decide +kernel) rfl iX7 (by decide) wd_299) rfl
    (sb_cons (pc2 := 30) (sx_iload_n (show decode cX7_miss 29 = .ok (.iload_n 3, 1) by decide +kernel) rfl) rfl
    (sb_cons (pc2 := 31) (sx_iald (show decode cX7_miss 30 = .ok (.iaload, 1) by decide +kernel)) rfl
    (sb_cons (pc2 := 32) (sx_aload_n (show decode cX7_miss 31 = .ok (.aload_n 0, 1) by decide +kernel) rfl) rfl
    (sb_cons (pc2 := 35) (sx_getf (show decode cX7_miss 32 = .ok (.getfield 44, 3) by decide +kernel) rfl iX7 (by decide) wd_299) rfl
    (sb_cons (pc2 := 37) (sx_iload (show decode cX7_miss 35 = .ok (.iload 4, 2) by decide +kernel)) rfl
    (sb_cons (pc2 := 38) (sx_iald (show decode cX7_miss 37 = .ok (.iaload, 1) by decide +kernel)) rfl
    (sb_cons (pc2 := 39) (sx_isub (show decode cX7_miss 38 = .ok (.isub, 1) by decide +kernel)) rfl
    (sb_cons (pc2 := 40) (sx_aload_n (show decode cX7_miss 39 = .ok (.aload_n 0, 1) by decide +kernel) rfl) rfl
    (sb_cons (pc2 := 43) (sx_getf (show decode cX7_miss 40 = .ok (.getfield 47, 3) by decide +kernel) rfl iX7 (by decide) wd_300) rfl
    (sb_cons (pc2 := 44) (sx_iload_n (show decode cX7_miss 43 = .ok (.iload_n 3, 1) by decide +kernel) rfl) rfl
    (sb_cons (pc2 := 45) (sx_iald (show decode cX7_miss 44 = .ok (.iaload, 1) by decide +kernel)) rfl
    (sb_cons (pc2 := 46) (sx_aload_n (show decode cX7_miss 45 = .ok (.aload_n 0, 1) by decide +kernel) rfl) rfl
    (sb_cons (pc2 := 49) (sx_getf (show decode cX7_miss 46 = .ok (.getfield 47, 3) by decide +kernel) rfl iX7 (by decide) wd_300) rfl
    (sb_cons (pc2 := 51) (sx_iload (show decode cX7_miss 49 = .ok (.iload 4, 2) by decide +kernel)) rfl
    (sb_cons (pc2 := 52) (sx_iald (show decode cX7_miss 51 = .ok (.iaload, 1) by decide +kernel)) rfl
    (sb_cons (pc2 := 53) (sx_isub (show decode cX7_miss 52 = .ok (.isub, 1) by decide +kernel)) rfl
    (sb_cons (pc2 := 54) (sx_aload_n (show decode cX7_miss 53 = .ok (.aload_n 0, 1) by decide +kernel) rfl) rfl
    (sb_cons (pc2 := 57) (sx_getf (show decode cX7_miss 54 = .ok (.getfield 38, 3) by decide +kernel) rfl iX7 (by decide) wd_297) rfl
    (sb_cons (pc2 := 58) (sx_iload_n (show decode cX7_miss 57 = .ok (.iload_n 1, 1) by decide +kernel) rfl) rfl
    (sb_cons (pc2 := 59) (sx_iald (show decode cX7_miss 58 = .ok (.iaload, 1) by decide +kernel)) rfl
    (sb_cons (pc2 := 62) (sx_cS (Y' := YX7_distance) rfl (show decode cX7_miss 59 = .ok (.invokestatic 93, 3) by decide +kernel) rfl (px_w3 wd_334 wd_335 wd_311) wd_333 ⟨by decide, by decide, by decide +kernel⟩ (by decide)) rfl
    (sb_cons (pc2 := 63) (sx_aload_n (show decode cX7_miss 62 = .ok (.aload_n 0, 1) by decide +kernel) rfl) rfl
    (sb_cons (pc2 := 66) (sx_getf (show decode cX7_miss 63 = .ok (.getfield 38, 3) by decide +kernel) rfl iX7 (by decide) wd_297) rfl
    (sb_cons (pc2 := 67) (sx_iload_n (show decode cX7_miss 66 = .ok (.iload_n 1, 1) by decide +kernel) rfl) rfl
    (sb_cons (pc2 := 68) (sx_iald (show decode cX7_miss 67 = .ok (.iaload, 1) by decide +kernel)) rfl
    (sb_cons (pc2 := 69) (sx_isub (show decode cX7_miss 68 = .ok (.isub, 1) by decide +kernel)) rfl
    (sb_cons (pc2 := 70) (sx_reti (show decode cX7_miss 69 = .ok (.ireturn, 1) by decide +kernel) rfl) rfl sb_nil)))))))))))))))))))))))))))))))))))))))))))))))
  ms_nil)
def kX7_distance (X : px_X) : px_B := [(0, [], [px_iload 0, px_iload 0, (px_i2 fun x y => x * y), px_iload 1, px_iload 1, (px_i2 fun x y => x * y), (px_i2 fun x y => x + y), px_istore 3, px_iload 3, px_push (.int 1), px_if2 (fun x y => decide (x < y)) 18, px_iload 2, px_push (.int 1), px_if2 (fun x y => decide (y ≤ x)) 20], 18),
  (18, [false, false, false, false, false, false, false], [px_push (.int 0), px_reti], 20),
  (20, [false, false, true, true, false, false, false], [px_iload 2, px_iload 3, px_iload 2, (px_i2d fun x y => x / y), (px_i2 fun x y => x + y), px_push (.int 2), (px_i2d fun x y => x / y), px_istore 4, px_push (.int 0), px_istore 5], 32),
  (32, [false, false, false, true, true, true, false], [px_iload 5, px_push (.int 60), px_if2 (fun x y => decide (y ≤ x)) 75, px_iload 4, px_if1 (fun x => decide (x ≤ 0)) 75, px_iload 4, px_iload 3, px_iload 4, (px_i2d fun x y => x / y), (px_i2 fun x y => x + y), px_push (.int 2), (px_i2d fun x y => x / y), px_istore 6, px_iload 6, px_iload 4, px_if2 (fun x y => decide (x < y)) 65, px_goto 75], 65),
  (65, [false, false, false, true, false, true, true], [px_iload 6, px_istore 4, px_iinc 5 1, px_goto 32], 75),
  (75, [false, false, false, false, true, false, false], [px_iload 4, px_reti], 78)]
set_option maxRecDepth 100000 in
set_option maxHeartbeats 8000000 in
theorem sX7_distance (d : Nat) (X : px_X) : px_MS d X YX7_distance (kX7_distance X) :=
  (ms_cons
  (sb_cons (pc2 := 1) (sx_iload_n (show decode cX7_distance 0 = .ok (.iload_n 0, 1) by decide +kernel) rfl) rfl
    (sb_cons (pc2 := 2) (sx_iload_n (show decode cX7_distance 1 = .ok (.iload_n 0, 1) by decide +kernel) rfl) rfl
    (sb_cons (pc2 := 3) (sx_imul (show decode cX7_distance 2 = .ok (.imul, 1) by decide +kernel)) rfl
    (sb_cons (pc2 := 4) (sx_iload_n (show decode cX7_distance 3 = .ok (.iload_n 1, 1) by decide +kernel) rfl) rfl
    (sb_cons (pc2 := 5) (sx_iload_n (show decode cX7_distance 4 = .ok (.iload_n 1, 1) by decide +kernel) rfl) rfl
    (sb_cons (pc2 := 6) (sx_imul (show decode cX7_distance 5 = .ok (.imul, 1) by decide +kernel)) rfl
    (sb_cons (pc2 := 7) (sx_iadd (show decode cX7_distance 6 = .ok (.iadd, 1) by decide +kernel)) rfl
    (sb_cons (pc2 := 8) (sx_istore_n (show decode cX7_distance 7 = .ok (.istore_n 3, 1) by decide +kernel) rfl) rfl
    (sb_cons (pc2 := 9) (sx_iload_n (show decode cX7_distance 8 = .ok (.iload_n 3, 1) by decide +kernel) rfl) rfl
    (sb_cons (pc2 := 10) (sx_iconst (show decode cX7_distance 9 = .ok (.iconst 1, 1) by decide +kernel) (by decide)) rfl
    (sb_cons (pc2 := 13) (sx_icmp_lt (show decode cX7_distance 10 = .ok (.if_icmp .lt 8, 3) by decide +kernel) (by decide)) rfl
    (sb_cons (pc2 := 14) (sx_iload_n (show decode cX7_distance 13 = .ok (.iload_n 2, 1) by decide +kernel) rfl) rfl
    (sb_cons (pc2 := 15) (sx_iconst (show decode cX7_distance 14 = .ok (.iconst 1, 1) by decide +kernel) (by decide)) rfl
    (sb_cons (pc2 := 18) (sx_icmp_ge (show decode cX7_distance 15 = .ok (.if_icmp .ge 5, 3) by decide +kernel) (by decide)) rfl sb_nil))))))))))))))
  (ms_cons
  (sb_cons (pc2 := 19) (sx_iconst (show decode cX7_distance 18 = .ok (.iconst 0, 1) by decide +kernel) (by decide)) rfl
    (sb_cons (pc2 := 20) (sx_reti (show decode cX7_distance 19 = .ok (.ireturn, 1) by decide +kernel) rfl) rfl sb_nil))
  (ms_cons
  (sb_cons (pc2 := 21) (sx_iload_n (show decode cX7_distance 20 = .ok (.iload_n 2, 1) by decide +kernel) rfl) rfl
    (sb_cons (pc2 := 22) (sx_iload_n (show decode cX7_distance 21 = .ok (.iload_n 3, 1) by decide +kernel) rfl) rfl
    (sb_cons (pc2 := 23) (sx_iload_n (show decode cX7_distance 22 = .ok (.iload_n 2, 1) by decide +kernel) rfl) rfl
    (sb_cons (pc2 := 24) (sx_idiv (show decode cX7_distance 23 = .ok (.idiv, 1) by decide +kernel)) rfl
    (sb_cons (pc2 := 25) (sx_iadd (show decode cX7_distance 24 = .ok (.iadd, 1) by decide +kernel)) rfl
    (sb_cons (pc2 := 26) (sx_iconst (show decode cX7_distance 25 = .ok (.iconst 2, 1) by decide +kernel) (by decide)) rfl
    (sb_cons (pc2 := 27) (sx_idiv (show decode cX7_distance 26 = .ok (.idiv, 1) by decide +kernel)) rfl
    (sb_cons (pc2 := 29) (sx_istore (show decode cX7_distance 27 = .ok (.istore 4, 2) by decide +kernel)) rfl
    (sb_cons (pc2 := 30) (sx_iconst (show decode cX7_distance 29 = .ok (.iconst 0, 1) by decide +kernel) (by decide)) rfl
    (sb_cons (pc2 := 32) (sx_istore (show decode cX7_distance 30 = .ok (.istore 5, 2) by decide +kernel)) rfl sb_nil))))))))))
  (ms_cons
  (sb_cons (pc2 := 34) (sx_iload (show decode cX7_distance 32 = .ok (.iload 5, 2) by decide +kernel)) rfl
    (sb_cons (pc2 := 36) (sx_bipush (show decode cX7_distance 34 = .ok (.bipush 60, 2) by decide +kernel) (by decide)) rfl
    (sb_cons (pc2 := 39) (sx_icmp_ge (show decode cX7_distance 36 = .ok (.if_icmp .ge 39, 3) by decide +kernel) (by decide)) rfl
    (sb_cons (pc2 := 41) (sx_iload (show decode cX7_distance 39 = .ok (.iload 4, 2) by decide +kernel)) rfl
    (sb_cons (pc2 := 44) (sx_if_le (show decode cX7_distance 41 = .ok (.ifCond .le 34, 3) by decide +kernel) (by decide)) rfl
    (sb_cons (pc2 := 46) (sx_iload (show decode cX7_distance 44 = .ok (.iload 4, 2) by decide +kernel)) rfl
    (sb_cons (pc2 := 47) (sx_iload_n (show decode cX7_distance 46 = .ok (.iload_n 3, 1) by decide +kernel) rfl) rfl
    (sb_cons (pc2 := 49) (sx_iload (show decode cX7_distance 47 = .ok (.iload 4, 2) by decide +kernel)) rfl
    (sb_cons (pc2 := 50) (sx_idiv (show decode cX7_distance 49 = .ok (.idiv, 1) by decide +kernel)) rfl
    (sb_cons (pc2 := 51) (sx_iadd (show decode cX7_distance 50 = .ok (.iadd, 1) by decide +kernel)) rfl
    (sb_cons (pc2 := 52) (sx_iconst (show decode cX7_distance 51 = .ok (.iconst 2, 1) by decide +kernel) (by decide)) rfl
    (sb_cons (pc2 := 53) (sx_idiv (show decode cX7_distance 52 = .ok (.idiv, 1) by decide +kernel)) rfl
    (sb_cons (pc2 := 55) (sx_istore (show decode cX7_distance 53 = .ok (.istore 6, 2) by decide +kernel)) rfl
    (sb_cons (pc2 := 57) (sx_iload (show decode cX7_distance 55 = .ok (.iload 6, 2) by decide +kernel)) rfl
    (sb_cons (pc2 := 59) (sx_iload (show decode cX7_distance 57 = .ok (.iload 4, 2) by decide +kernel)) rfl
    (sb_cons (pc2 := 62) (sx_icmp_lt (show decode cX7_distance 59 = .ok (.if_icmp .lt 6, 3) by decide +kernel) (by decide)) rfl
    (sb_cons (pc2 := 65) (px_snd_goto (show decode cX7_distance 62 = .ok (.goto 13, 3) by decide +kernel) (by decide)) rfl sb_nil)))))))))))))))))
  (ms_cons
  (sb_cons (pc2 := 67) (sx_iload (show decode cX7_distance 65 = .ok (.iload 6, 2) by decide +kernel)) rfl
    (sb_cons (pc2 := 69) (sx_istore (show decode cX7_distance 67 = .ok (.istore 4, 2) by decide +kernel)) rfl
    (sb_cons (pc2 := 72) (sx_iinc (show decode cX7_distance 69 = .ok (.iinc 5 1, 3) by decide +kernel) (by decide)) rfl
    (sb_cons (pc2 := 75) (px_snd_goto (show decode cX7_distance 72 = .ok (.goto (-40), 3) by decide +kernel) (by decide)) rfl sb_nil))))
  (ms_cons
  (sb_cons (pc2 := 77) (sx_iload (show decode cX7_distance 75 = .ok (.iload 4, 2) by decide +kernel)) rfl
    (sb_cons (pc2 := 78) (sx_reti (show decode cX7_distance 77 = .ok (.ireturn, 1) by decide +kernel) rfl) rfl sb_nil))
  ms_nil))))))
def kX7_fitIfNew (X : px_X) : px_B := [(0, [], [px_iload 1, px_aload 0, px_getf 7 9, px_if2 (fun x y => decide (y ≤ x)) 9, px_retv], 9),
  (9, [true, true, false, false, false, false], [px_aload 0, px_iload 1, px_cV X 93 2 7, px_push (.int 512), px_istore 2], 18),
  (18, [true, true, true, false, false, false], [px_iload 2, px_push (.int 1), px_if2 (fun x y => decide (x < y)) 94, px_push (.int 1), px_istore 3, px_push (.int 0), px_istore 4], 28),
  (28, [true, true, true, true, true, false], [px_iload 4, px_push (.int 4), px_if2 (fun x y => decide (y ≤ x)) 87, px_iload 3, px_if1 (fun x => decide (x = 0)) 87, px_push (.int 0), px_istore 3, px_push (.int 0), px_istore 5], 43),
  (43, [true, true, true, true, true, true], [px_iload 5, px_aload 0, px_getf 7 0, px_if2 (fun x y => decide (y ≤ x)) 81, px_aload 0, px_getf 7 5, px_iload 5, px_iald 1, px_if1 (fun x => decide (¬ x = 0)) 75, px_aload 0, px_iload 5, px_iload 1, px_iload 2, px_cV X 95 4 7, px_if1 (fun x => decide (x = 0)) 75, px_push (.int 1), px_istore 3], 75),
  (75, [true, true, true, true, true, true], [px_iinc 5 1, px_goto 43], 81),
  (81, [true, true, true, true, true, false], [px_iinc 4 1, px_goto 28], 87),
  (87, [true, true, true, false, false, false], [px_iload 2, px_push (.int 2), (px_i2d fun x y => x / y), px_istore 2, px_goto 18], 94),
  (94, [true, true, false, false, false, false], [px_aload 0, px_iload 1, px_cV X 97 2 7, px_aload 0, px_iload 1, px_push (.int 1), (px_i2 fun x y => x + y), px_puti 7 9, px_retv], 107)]
set_option maxRecDepth 100000 in
set_option maxHeartbeats 8000000 in
theorem sX7_fitIfNew (d : Nat) (X : px_X) : px_MS d X YX7_fitIfNew (kX7_fitIfNew X) :=
  (ms_cons
  (sb_cons (pc2 := 1) (sx_iload_n (show decode cX7_fitIfNew 0 = .ok (.iload_n 1, 1) by decide +kernel) rfl) rfl
    (sb_cons (pc2 := 2) (sx_aload_n (show decode cX7_fitIfNew 1 = .ok (.aload_n 0, 1) by decide +kernel) rfl) rfl
    (sb_cons (pc2 := 5) (sx_getf (show decode cX7_fitIfNew 2 = .ok (.getfield 41, 3) by decide +kernel) rfl iX7 (by decide) wd_298) rfl
    (sb_cons (pc2 := 8) (sx_icmp_ge (show decode cX7_fitIfNew 5 = .ok (.if_icmp .ge 4, 3) by decide +kernel) (by decide)) rfl
    (sb_cons (pc2 := 9) (sx_retv (show decode cX7_fitIfNew 8 = .ok (.return_, 1) by decide +kernel) rfl) rfl sb_nil)))))
  (ms_cons
  (sb_cons (pc2 := 10) (sx_aload_n (show decode cX7_fitIfNew 9 = .ok (.aload_n 0, 1) by decide +kernel) rfl) rfl
    (sb_cons (pc2 := 11) (sx_iload_n (show decode cX7_fitIfNew 10 = .ok (.iload_n 1, 1) by decide +kernel) rfl) rfl
    (sb_cons (pc2 := 14) (sx_cV (Y' := YX7_goToTold) (q := (RX7, TX7, 18)) rfl (show decode cX7_fitIfNew 11 = .ok (.invokevirtual 97, 3) by decide +kernel) rfl rfl (px_w4 wd_337 wd_338 wd_339 wd_311) wd_336 ⟨by decide, by decide, by decide +kernel⟩ (by decide)) rfl
    (sb_cons (pc2 := 17) (sx_sipush (show decode cX7_fitIfNew 14 = .ok (.sipush 512, 3) by decide +kernel) (by decide)) rfl
    (sb_cons (pc2 := 18) (sx_istore_n (show decode cX7_fitIfNew 17 = .ok (.istore_n 2, 1) by decide +kernel) rfl) rfl sb_nil)))))
  (ms_cons
  (sb_cons (pc2 := 19) (sx_iload_n (show decode cX7_fitIfNew 18 = .ok (.iload_n 2, 1) by decide +kernel) rfl) rfl
    (sb_cons (pc2 := 20) (sx_iconst (show decode cX7_fitIfNew 19 = .ok (.iconst 1, 1) by decide +kernel) (by decide)) rfl
    (sb_cons (pc2 := 23) (sx_icmp_lt (show decode cX7_fitIfNew 20 = .ok (.if_icmp .lt 74, 3) by decide +kernel) (by decide)) rfl
    (sb_cons (pc2 := 24) (sx_iconst (show decode cX7_fitIfNew 23 = .ok (.iconst 1, 1) by decide +kernel) (by decide)) rfl
    (sb_cons (pc2 := 25) (sx_istore_n (show decode cX7_fitIfNew 24 = .ok (.istore_n 3, 1) by decide +kernel) rfl) rfl
    (sb_cons (pc2 := 26) (sx_iconst (show decode cX7_fitIfNew 25 = .ok (.iconst 0, 1) by decide +kernel) (by decide)) rfl
    (sb_cons (pc2 := 28) (sx_istore (show decode cX7_fitIfNew 26 = .ok (.istore 4, 2) by decide +kernel)) rfl sb_nil)))))))
  (ms_cons
  (sb_cons (pc2 := 30) (sx_iload (show decode cX7_fitIfNew 28 = .ok (.iload 4, 2) by decide +kernel)) rfl
    (sb_cons (pc2 := 31) (sx_iconst (show decode cX7_fitIfNew 30 = .ok (.iconst 4, 1) by decide +kernel) (by decide)) rfl
    (sb_cons (pc2 := 34) (sx_icmp_ge (show decode cX7_fitIfNew 31 = .ok (.if_icmp .ge 56, 3) by decide +kernel) (by decide)) rfl
    (sb_cons (pc2 := 35) (sx_iload_n (show decode cX7_fitIfNew 34 = .ok (.iload_n 3, 1) by decide +kernel) rfl) rfl
    (sb_cons (pc2 := 38) (sx_if_eq (show decode cX7_fitIfNew 35 = .ok (.ifCond .eq 52, 3) by decide +kernel) (by decide)) rfl
    (sb_cons (pc2 := 39) (sx_iconst (show decode cX7_fitIfNew 38 = .ok (.iconst 0, 1) by decide +kernel) (by decide)) rfl
    (sb_cons (pc2 := 40) (sx_istore_n (show decode cX7_fitIfNew 39 = .ok (.istore_n 3, 1) by decide +kernel) rfl) rfl
    (sb_cons (pc2 := 41) (sx_iconst (show decode cX7_fitIfNew 40 = .ok (.iconst 0, 1) by decide +kernel) (by decide)) rfl
    (sb_cons (pc2 := 43) (sx_istore (show decode cX7_fitIfNew 41 = .ok (.istore 5, 2) by decide +kernel)) rfl sb_nil)))))))))
  (ms_cons
  (sb_cons (pc2 := 45) (sx_iload (show decode cX7_fitIfNew 43 = .ok (.iload 5, 2) by decide +kernel)) rfl
    (sb_cons (pc2 := 46) (sx_aload_n (show decode cX7_fitIfNew 45 = .ok (.aload_n 0, 1) by decide +kernel) rfl) rfl
    (sb_cons (pc2 := 49) (sx_getf (show decode cX7_fitIfNew 46 = .ok (.getfield 9, 3) by decide +kernel) rfl iX7 (by decide) wd_288) rfl
    (sb_cons (pc2 := 52) (sx_icmp_ge (show decode cX7_fitIfNew 49 = .ok (.if_icmp .ge 32, 3) by decide +kernel) (by decide)) rfl
    (sb_cons (pc2 := 53) (sx_aload_n (show decode cX7_fitIfNew 52 = .ok (.aload_n 0, 1) by decide +kernel) rfl) rfl
    (sb_cons (pc2 := 56) (sx_getf (show decode cX7_fitIfNew 53 = .ok (.getfield 28, 3) by decide +kernel) rfl iX7 (by decide) wd_294) rfl
    (sb_cons (pc2 := 58) (sx_iload (show decode cX7_fitIfNew 56 = .ok (.iload 5, 2) by decide +kernel)) rfl
    (sb_cons (pc2 := 59) (sx_zald (show decode cX7_fitIfNew 58 = .ok (.baload, 1) by decide +kernel)) rfl
    (sb_cons (pc2 := 62) (sx_if_ne (show decode cX7_fitIfNew 59 = .ok (.ifCond .ne 16, 3) by decide +kernel) (by decide)) rfl
    (sb_cons (pc2 := 63) (sx_aload_n (show decode cX7_fitIfNew 62 = .ok (.aload_n 0, 1) by decide +kernel) rfl) rfl
    (sb_cons (pc2 := 65) (sx_iload (show decode cX7_fitIfNew 63 = .ok (.iload 5, 2) by decide +kernel)) rfl
    (sb_cons (pc2 := 66) (sx_iload_n (show decode cX7_fitIfNew 65 = .ok (.iload_n 1, 1) by decide +kernel) rfl) rfl
    (sb_cons (pc2 := 67) (sx_iload_n (show decode cX7_fitIfNew 66 = .ok (.iload_n 2, 1) by decide +kernel) rfl) rfl
    (sb_cons (pc2 := 70) (sx_cV (Y' := YX7_moveMark) (q := (RX7, TX7, 18)) rfl (show decode cX7_fitIfNew 67 = .ok (.invokevirtual 100, 3) by decide +kernel) rfl rfl (px_w4 wd_341 wd_342 wd_343 wd_311) wd_340 ⟨by decide, by decide, by decide +kernel⟩ (by decide)) rfl
    (sb_cons (pc2 := 73) (sx_if_eq (show decode cX7_fitIfNew 70 = .ok (.ifCond .eq 5, 3) by decide +kernel) (by decide)) rfl
    (sb_cons (pc2 := 74) (sx_iconst (show decode cX7_fitIfNew 73 = .ok (.iconst 1, 1) by decide +kernel) (by decide)) rfl
    (sb_cons (pc2 := 75) (sx_istore_n (show decode cX7_fitIfNew 74 = .ok (.istore_n 3, 1) by decide +kernel) rfl) rfl sb_nil)))))))))))))))))
  (ms_cons
  (sb_cons (pc2 := 78) (sx_iinc (show decode cX7_fitIfNew 75 = .ok (.iinc 5 1, 3) by decide +kernel) (by decide)) rfl
    (sb_cons (pc2 := 81) (px_snd_goto (show decode cX7_fitIfNew 78 = .ok (.goto (-35), 3) by decide +kernel) (by decide)) rfl sb_nil))
  (ms_cons
  (sb_cons (pc2 := 84) (sx_iinc (show decode cX7_fitIfNew 81 = .ok (.iinc 4 1, 3) by decide +kernel) (by decide)) rfl
    (sb_cons (pc2 := 87) (px_snd_goto (show decode cX7_fitIfNew 84 = .ok (.goto (-56), 3) by decide +kernel) (by decide)) rfl sb_nil))
  (ms_cons
  (sb_cons (pc2 := 88) (sx_iload_n (show decode cX7_fitIfNew 87 = .ok (.iload_n 2, 1) by decide +kernel) rfl) rfl
    (sb_cons (pc2 := 89) (sx_iconst (show decode cX7_fitIfNew 88 = .ok (.iconst 2, 1) by decide +kernel) (by decide)) rfl
    (sb_cons (pc2 := 90) (sx_idiv (show decode cX7_fitIfNew 89 = .ok (.idiv, 1) by decide +kernel)) rfl
    (sb_cons (pc2 := 91) (sx_istore_n (show decode cX7_fitIfNew 90 = .ok (.istore_n 2, 1) by decide +kernel) rfl) rfl
    (sb_cons (pc2 := 94) (px_snd_goto (show decode cX7_fitIfNew 91 = .ok (.goto (-73), 3) by decide +kernel) (by decide)) rfl sb_nil)))))
  (ms_cons
  (sb_cons (pc2 := 95) (sx_aload_n (show decode cX7_fitIfNew 94 = .ok (.aload_n 0, 1) by decide +kernel) rfl) rfl
    (sb_cons (pc2 := 96) (sx_iload_n (show decode cX7_fitIfNew 95 = .ok (.iload_n 1, 1) by decide +kernel) rfl) rfl
    (sb_cons (pc2 := 99) (sx_cV (Y' := YX7_judge) (q := (RX7, TX7, 18)) rfl (show decode cX7_fitIfNew 96 = .ok (.invokevirtual 104, 3) by decide +kernel) rfl rfl (px_w4 wd_345 wd_346 wd_347 wd_311) wd_344 ⟨by decide, by decide, by decide +kernel⟩ (by decide)) rfl
    (sb_cons (pc2 := 100) (sx_aload_n (show decode cX7_fitIfNew 99 = .ok (.aload_n 0, 1) by decide +kernel) rfl) rfl
    (sb_cons (pc2 := 101) (sx_iload_n (show decode cX7_fitIfNew 100 = .ok (.iload_n 1, 1) by decide +kernel) rfl) rfl
    (sb_cons (pc2 := 102) (sx_iconst (show decode cX7_fitIfNew 101 = .ok (.iconst 1, 1) by decide +kernel) (by decide)) rfl
    (sb_cons (pc2 := 103) (sx_iadd (show decode cX7_fitIfNew 102 = .ok (.iadd, 1) by decide +kernel)) rfl
    (sb_cons (pc2 := 106) (sx_puti (show decode cX7_fitIfNew 103 = .ok (.putfield 41, 3) by decide +kernel) rfl iX7 tyX7_ok nmX7 (by decide) wd_298 rfl (Or.inl rfl)) rfl
    (sb_cons (pc2 := 107) (sx_retv (show decode cX7_fitIfNew 106 = .ok (.return_, 1) by decide +kernel) rfl) rfl sb_nil)))))))))
  ms_nil)))))))))
def kX7_goToTold (X : px_X) : px_B := [(0, [], [px_push (.int 0), px_istore 2], 2),
  (2, [true, true, true], [px_iload 2, px_aload 0, px_getf 7 0, px_if2 (fun x y => decide (y ≤ x)) 50, px_aload 0, px_getf 7 10, px_push (.int 8), px_iload 1, (px_i2 fun x y => x * y), px_iload 2, (px_i2 fun x y => x + y), px_aload 0, px_getf 7 3, px_iload 2, px_iald 0, px_iast 0, px_aload 0, px_getf 7 11, px_push (.int 8), px_iload 1, (px_i2 fun x y => x * y), px_iload 2, (px_i2 fun x y => x + y), px_aload 0, px_getf 7 4, px_iload 2, px_iald 0, px_iast 0, px_iinc 2 1, px_goto 2], 50),
  (50, [false, false, false], [px_retv], 51)]
set_option maxRecDepth 100000 in
set_option maxHeartbeats 8000000 in
theorem sX7_goToTold (d : Nat) (X : px_X) : px_MS d X YX7_goToTold (kX7_goToTold X) :=
  (ms_cons
  (sb_cons (pc2 := 1) (sx_iconst (show decode cX7_goToTold 0 = .ok (.iconst 0, 1) by decide +kernel) (by decide)) rfl
    (sb_cons (pc2 := 2) (sx_istore_n (show decode cX7_goToTold 1 = .ok (.istore_n 2, 1) by decide +kernel) rfl) rfl sb_nil))
  (ms_cons
  (sb_cons (pc2 := 3) (sx_iload_n (show decode cX7_goToTold 2 = .ok (.iload_n 2, 1) by decide +kernel) rfl) rfl
    (sb_cons (pc2 := 4) (sx_aload_n (show decode cX7_goToTold 3 = .ok (.aload_n 0, 1) by decide +kernel) rfl) rfl
    (sb_cons (pc2 := 7) (sx_getf (show decode cX7_goToTold 4 = .ok (.getfield 9, 3) by decide +kernel) rfl iX7 (by decide) wd_288) rfl
    (sb_cons (pc2 := 10) (sx_icmp_ge (show decode cX7_goToTold 7 = .ok (.if_icmp .ge 43, 3) by decide +kernel) (by decide)) rfl
    (sb_cons (pc2 := 11) (sx_aload_n (show decode cX7_goToTold 10 = .ok (.aload_n 0, 1) by decide +kernel) rfl) rfl
    (sb_cons (pc2 := 14) (sx_getf (show decode cX7_goToTold 11 = .ok (.getfield 44, 3) by decide +kernel) rfl iX7 (by decide) wd_299) rfl
    (sb_cons (pc2 := 16) (sx_bipush (show decode cX7_goToTold 14 = .ok (.bipush 8, 2) by decide +kernel) (by decide)) rfl
    (sb_cons (pc2 := 17) (sx_iload_n (show decode cX7_goToTold 16 = .ok (.iload_n 1, 1) by decide +kernel) rfl) rfl
    (sb_cons (pc2 := 18) (sx_imul (show decode cX7_goToTold 17 = .ok (.imul, 1) by decide +kernel)) rfl
    (sb_cons (pc2 := 19) (sx_iload_n (show decode cX7_goToTold 18 = .ok (.iload_n 2, 1) by decide +kernel) rfl) rfl
    (sb_cons (pc2 := 20) (sx_iadd (show decode cX7_goToTold 19 = .ok (.iadd, 1) by decide +kernel)) rfl
    (sb_cons (pc2 := 21) (sx_aload_n (show decode cX7_goToTold 20 = .ok (.aload_n 0, 1) by decide +kernel) rfl) rfl
    (sb_cons (pc2 := 24) (sx_getf (show decode cX7_goToTold 21 = .ok (.getfield 21, 3) by decide +kernel) rfl iX7 (by decide) wd_291) rfl
    (sb_cons (pc2 := 25) (sx_iload_n (show decode cX7_goToTold 24 = .ok (.iload_n 2, 1) by decide +kernel) rfl) rfl
    (sb_cons (pc2 := 26) (sx_iald (show decode cX7_goToTold 25 = .ok (.iaload, 1) by decide +kernel)) rfl
    (sb_cons (pc2 := 27) (sx_iast (show decode cX7_goToTold 26 = .ok (.iastore, 1) by decide +kernel)) rfl
    (sb_cons (pc2 := 28) (sx_aload_n (show decode cX7_goToTold 27 = .ok (.aload_n 0, 1) by decide +kernel) rfl) rfl
    (sb_cons (pc2 := 31) (sx_getf (show decode cX7_goToTold 28 = .ok (.getfield 47, 3) by decide +kernel) rfl iX7 (by decide) wd_300) rfl
    (sb_cons (pc2 := 33) (sx_bipush (show decode cX7_goToTold 31 = .ok (.bipush 8, 2) by decide +kernel) (by decide)) rfl
    (sb_cons (pc2 := 34) (sx_iload_n (show decode cX7_goToTold 33 = .ok (.iload_n 1, 1) by decide +kernel) rfl) rfl
    (sb_cons (pc2 := 35) (sx_imul (show decode cX7_goToTold 34 = .ok (.imul, 1) by decide +kernel)) rfl
    (sb_cons (pc2 := 36) (sx_iload_n (show decode cX7_goToTold 35 = .ok (.iload_n 2, 1) by decide +kernel) rfl) rfl
    (sb_cons (pc2 := 37) (sx_iadd (show decode cX7_goToTold 36 = .ok (.iadd, 1) by decide +kernel)) rfl
    (sb_cons (pc2 := 38) (sx_aload_n (show decode cX7_goToTold 37 = .ok (.aload_n 0, 1) by decide +kernel) rfl) rfl
    (sb_cons (pc2 := 41) (sx_getf (show decode cX7_goToTold 38 = .ok (.getfield 25, 3) by decide +kernel) rfl iX7 (by decide) wd_292) rfl
    (sb_cons (pc2 := 42) (sx_iload_n (show decode cX7_goToTold 41 = .ok (.iload_n 2, 1) by decide +kernel) rfl) rfl
    (sb_cons (pc2 := 43) (sx_iald (show decode cX7_goToTold 42 = .ok (.iaload, 1) by decide +kernel)) rfl
    (sb_cons (pc2 := 44) (sx_iast (show decode cX7_goToTold 43 = .ok (.iastore, 1) by decide +kernel)) rfl
    (sb_cons (pc2 := 47) (sx_iinc (show decode cX7_goToTold 44 = .ok (.iinc 2 1, 3) by decide +kernel) (by decide)) rfl
    (sb_cons (pc2 := 50) (px_snd_goto (show decode cX7_goToTold 47 = .ok (.goto (-45), 3) by decide +kernel) (by decide)) rfl sb_nil))))))))))))))))))))))))))))))
  (ms_cons
  (sb_cons (pc2 := 51) (sx_retv (show decode cX7_goToTold 50 = .ok (.return_, 1) by decide +kernel) rfl) rfl sb_nil)
  ms_nil)))
def kX7_gatherNear (X : px_X) : px_B := [(0, [], [px_aload 0, px_push (.int 0), px_puti 7 14, px_push (.int 0), px_istore 3], 7),
  (7, [true, true, true, true, false, false], [px_iload 3, px_aload 0, px_getf 7 1, px_if2 (fun x y => decide (y ≤ x)) 146, px_aload 0, px_getf 7 6, px_iload 3, px_iald 0, px_iload 1, px_if2 (fun x y => decide (¬ x = y)) 29, px_push (.int 1), px_goto 30], 29),
  (29, [true, true, true, true, false, false], [px_push (.int 0)], 30),
  (30, [true, true, true, true, false, false], [px_istore 4, px_aload 0, px_iload 3, px_iload 2, px_cV X 89 3 7, px_if1 (fun x => decide (¬ x = 0)) 140, px_iload 4, px_if1 (fun x => decide (¬ x = 0)) 56, px_aload 0, px_getf 7 7, px_iload 3, px_iald 0, px_iload 1, px_if2 (fun x y => decide (¬ x = y)) 140], 56),
  (56, [true, true, true, true, true, false], [px_push (.int 8), px_iload 2, (px_i2 fun x y => x * y), px_iload 4, px_if1 (fun x => decide (x = 0)) 74, px_aload 0, px_getf 7 7, px_iload 3, px_iald 0, px_goto 80], 74),
  (74, [true, true, true, true, false, false], [px_aload 0, px_getf 7 6, px_iload 3, px_iald 0], 80),
  (80, [true, true, true, true, false, false], [(px_i2 fun x y => x + y), px_istore 5, px_aload 0, px_getf 7 15, px_aload 0, px_getf 7 14, px_aload 0, px_getf 7 10, px_iload 5, px_iald 0, px_iast 0, px_aload 0, px_getf 7 16, px_aload 0, px_getf 7 14, px_aload 0, px_getf 7 11, px_iload 5, px_iald 0, px_iast 0, px_aload 0, px_getf 7 17, px_aload 0, px_getf 7 14, px_aload 0, px_getf 7 8, px_iload 3, px_iald 0, px_iast 0, px_aload 0, px_dup, px_getf 7 14, px_push (.int 1), (px_i2 fun x y => x + y), px_puti 7 14], 140),
  (140, [true, true, true, true, false, false], [px_iinc 3 1, px_goto 7], 146),
  (146, [false, false, false, false, false, false], [px_retv], 147)]
set_option maxRecDepth 100000 in
set_option maxHeartbeats 8000000 in
theorem sX7_gatherNear (d : Nat) (X : px_X) : px_MS d X YX7_gatherNear (kX7_gatherNear X) :=
  (ms_cons
  (sb_cons (pc2 := 1) (sx_aload_n (show decode cX7_gatherNear 0 = .ok (.aload_n 0, 1) by decide +kernel) rfl) rfl
    (sb_cons (pc2 := 2) (sx_iconst (show decode cX7_gatherNear 1 = .ok (.iconst 0, 1) by decide +kernel) (by decide)) rfl
    (sb_cons (pc2 := 5) (sx_puti (show decode cX7_gatherNear 2 = .ok (.putfield 56, 3) by decide +kernel) rfl iX7 tyX7_ok nmX7 (by decide) wd_303 rfl (Or.inl rfl)) rfl
    (sb_cons (pc2 := 6) (sx_iconst (show decode cX7_gatherNear 5 = .ok (.iconst 0, 1) by decide +kernel) (by decide)) rfl
    (sb_cons (pc2 := 7) (sx_istore_n (show decode cX7_gatherNear 6 = .ok (.istore_n 3, 1) by decide +kernel) rfl) rfl sb_nil)))))
  (ms_cons
  (sb_cons (pc2 := 8) (sx_iload_n (show decode cX7_gatherNear 7 = .ok (.iload_n 3, 1) by decide +kernel) rfl) rfl
    (sb_cons (pc2 := 9) (sx_aload_n (show decode cX7_gatherNear 8 = .ok (.aload_n 0, 1) by decide +kernel) rfl) rfl
    (sb_cons (pc2 := 12) (sx_getf (show decode cX7_gatherNear 9 = .ok (.getfield 15, 3) by decide +kernel) rfl iX7 (by decide) wd_289) rfl
    (sb_cons (pc2 := 15) (sx_icmp_ge (show decode cX7_gatherNear 12 = .ok (.if_icmp .ge 134, 3) by decide +kernel) (by decide)) rfl
    (sb_cons (pc2 := 16) (sx_aload_n (show decode cX7_gatherNear 15 = .ok (.aload_n 0, 1) by decide +kernel) rfl) rfl
    (sb_cons (pc2 := 19) (sx_getf (show decode cX7_gatherNear 16 = .ok (.getfield 32, 3) by decide +kernel) rfl iX7 (by decide) wd_295) rfl
    (sb_cons (pc2 := 20) (sx_iload_n (show decode cX7_gatherNear 19 = .ok (.iload_n 3, 1) by decide +kernel) rfl) rfl
    (sb_cons (pc2 := 21) (sx_iald (show decode cX7_gatherNear 20 = .ok (.iaload, 1) by decide +kernel)) rfl
    (sb_cons (pc2 := 22) (sx_iload_n (show decode cX7_gatherNear 21 = .ok (.iload_n 1, 1) by decide +kernel) rfl) rfl
    (sb_cons (pc2 := 25) (sx_icmp_ne (show decode cX7_gatherNear 22 = .ok (.if_icmp .ne 7, 3) by decide +kernel) (by decide)) rfl
    (sb_cons (pc2 := 26) (sx_iconst (show decode cX7_gatherNear 25 = .ok (.iconst 1, 1) by decide +kernel) (by decide)) rfl
    (sb_cons (pc2 := 29) (px_snd_goto (show decode cX7_gatherNear 26 = .ok (.goto 4, 3) by decide +kernel) (by decide)) rfl sb_nil))))))))))))
  (ms_cons
  (sb_cons (pc2 := 30) (sx_iconst (show decode cX7_gatherNear 29 = .ok (.iconst 0, 1) by decide +kernel) (by decide)) rfl sb_nil)
  (ms_cons
  (sb_cons (pc2 := 32) (sx_istore (show decode cX7_gatherNear 30 = .ok (.istore 4, 2) by decide +kernel)) rfl
    (sb_cons (pc2 := 33) (sx_aload_n (show decode cX7_gatherNear 32 = .ok (.aload_n 0, 1) by decide +kernel) rfl) rfl
    (sb_cons (pc2 := 34) (sx_iload_n (show decode cX7_gatherNear 33 = .ok (.iload_n 3, 1) by decide +kernel) rfl) rfl
    (sb_cons (pc2 := 35) (sx_iload_n (show decode cX7_gatherNear 34 = .ok (.iload_n 2, 1) by decide +kernel) rfl) rfl
    (sb_cons (pc2 := 38) (sx_cV (Y' := YX7_isOut) (q := (RX7, TX7, 18)) rfl (show decode cX7_gatherNear 35 = .ok (.invokevirtual 81, 3) by decide +kernel) rfl rfl (px_w4 wd_322 wd_323 wd_324 wd_311) wd_321 ⟨by decide, by decide, by decide +kernel⟩ (by decide)) rfl
    (sb_cons (pc2 := 41) (sx_if_ne (show decode cX7_gatherNear 38 = .ok (.ifCond .ne 102, 3) by decide +kernel) (by decide)) rfl
    (sb_cons (pc2 := 43) (sx_iload (show decode cX7_gatherNear 41 = .ok (.iload 4, 2) by decide +kernel)) rfl
    (sb_cons (pc2 := 46) (sx_if_ne (show decode cX7_gatherNear 43 = .ok (.ifCond .ne 13, 3) by decide +kernel) (by decide)) rfl
    (sb_cons (pc2 := 47) (sx_aload_n (show decode cX7_gatherNear 46 = .ok (.aload_n 0, 1) by decide +kernel) rfl) rfl
    (sb_cons (pc2 := 50) (sx_getf (show decode cX7_gatherNear 47 = .ok (.getfield 35, 3) by decide +kernel) rfl iX7 (by decide) wd_296) rfl
    (sb_cons (pc2 := 51) (sx_iload_n (show decode cX7_gatherNear 50 = .ok (.iload_n 3, 1) by decide +kernel) rfl) rfl
    (sb_cons (pc2 := 52) (sx_iald (show decode cX7_gatherNear 51 = .ok (.iaload, 1) by decide +kernel)) rfl
    (sb_cons (pc2 := 53) (sx_iload_n (show decode cX7_gatherNear 52 = .ok (.iload_n 1, 1) by decide +kernel) rfl) rfl
    (sb_cons (pc2 := 56) (sx_icmp_ne (show decode cX7_gatherNear 53 = .ok (.if_icmp .ne 87, 3) by decide +kernel) (by decide)) rfl sb_nil))))))))))))))
  (ms_cons
  (sb_cons (pc2 := 58) (sx_bipush (show decode cX7_gatherNear 56 = .ok (.bipush 8, 2) by decide +kernel) (by decide)) rfl
    (sb_cons (pc2 := 59) (sx_iload_n (show decode cX7_gatherNear 58 = .ok (.iload_n 2, 1) by decide +kernel) rfl) rfl
    (sb_cons (pc2 := 60) (sx_imul (show decode cX7_gatherNear 59 = .ok (.imul, 1) by decide +kernel)) rfl
    (sb_cons (pc2 := 62) (sx_iload (show decode cX7_gatherNear 60 = .ok (.iload 4, 2) by decide +kernel)) rfl
    (sb_cons (pc2 := 65) (sx_if_eq (show decode cX7_gatherNear 62 = .ok (.ifCond .eq 12, 3) by decide +kernel) (by decide)) rfl
    (sb_cons (pc2 := 66) (sx_aload_n (show decode cX7_gatherNear 65 = .ok (.aload_n 0, 1) by decide +kernel) rfl) rfl
    (sb_cons (pc2 := 69) (sx_getf (show decode cX7_gatherNear 66 = .ok (.getfield 35, 3) by decide +kernel) rfl iX7 (by decide) wd_296) rfl
    (sb_cons (pc2 := 70) (sx_iload_n (show decode cX7_gatherNear 69 = .ok (.iload_n 3, 1) by decide +kernel) rfl) rfl
    (sb_cons (pc2 := 71) (sx_iald (show decode cX7_gatherNear 70 = .ok (.iaload, 1) by decide +kernel)) rfl
    (sb_cons (pc2 := 74) (px_snd_goto (show decode cX7_gatherNear 71 = .ok (.goto 9, 3) by decide +kernel) (by decide)) rfl sb_nil))))))))))
  (ms_cons
  (sb_cons (pc2 := 75) (sx_aload_n (show decode cX7_gatherNear 74 = .ok (.aload_n 0, 1) by decide +kernel) rfl) rfl
    (sb_cons (pc2 := 78) (sx_getf (show decode cX7_gatherNear 75 = .ok (.getfield 32, 3) by decide +kernel) rfl iX7 (by decide) wd_295) rfl
    (sb_cons (pc2 := 79) (sx_iload_n (show decode cX7_gatherNear 78 = .ok (.iload_n 3, 1) by decide +kernel) rfl) rfl
    (sb_cons (pc2 := 80) (sx_iald (show decode cX7_gatherNear 79 = .ok (.iaload, 1) by decide +kernel)) rfl sb_nil))))
  (ms_cons
  (sb_cons (pc2 := 81) (sx_iadd (show decode cX7_gatherNear 80 = .ok (.iadd, 1) by decide +kernel)) rfl
    (sb_cons (pc2 := 83) (sx_istore (show decode cX7_gatherNear 81 = .ok (.istore 5, 2) by decide +kernel)) rfl
    (sb_cons (pc2 := 84) (sx_aload_n (show decode cX7_gatherNear 83 = .ok (.aload_n 0, 1) by decide +kernel) rfl) rfl
    (sb_cons (pc2 := 87) (sx_getf (show decode cX7_gatherNear 84 = .ok (.getfield 59, 3) by decide +kernel) rfl iX7 (by decide) wd_304) rfl
    (sb_cons (pc2 := 88) (sx_aload_n (show decode cX7_gatherNear 87 = .ok (.aload_n 0, 1) by decide +kernel) rfl) rfl
    (sb_cons (pc2 := 91) (sx_getf (show decode cX7_gatherNear 88 = .ok (.getfield 56, 3) by decide +kernel) rfl iX7 (by decide) wd_303) rfl
    (sb_cons (pc2 := 92) (sx_aload_n (show decode cX7_gatherNear 91 = .ok (.aload_n 0, 1) by decide +kernel) rfl) rfl
    (sb_cons (pc2 := 95) (sx_getf (show decode cX7_gatherNear 92 = .ok (.getfield 44, 3) by decide +kernel) rfl iX7 (by decide) wd_299) rfl
    (sb_cons (pc2 := 97) (sx_iload (show decode cX7_gatherNear 95 = .ok (.iload 5, 2) by decide +kernel)) rfl
    (sb_cons (pc2 := 98) (sx_iald (show decode cX7_gatherNear 97 = .ok (.iaload, 1) by decide +kernel)) rfl
    (sb_cons (pc2 := 99) (sx_iast (show decode cX7_gatherNear 98 = .ok (.iastore, 1) by decide +kernel)) rfl
    (sb_cons (pc2 := 100) (sx_aload_n (show decode cX7_gatherNear 99 = .ok (.aload_n 0, 1) by decide +kernel) rfl) rfl
    (sb_cons (pc2 := 103) (sx_getf (show decode cX7_gatherNear 100 = .ok (.getfield 62, 3) by decide +kernel) rfl iX7 (by decide) wd_305) rfl
    (sb_cons (pc2 := 104) (sx_aload_n (show decode cX7_gatherNear 103 = .ok (.aload_n 0, 1) by decide +kernel) rfl) rfl
    (sb_cons (pc2 := 107) (sx_getf (show decode cX7_gatherNear 104 = .ok (.getfield 56, 3) by decide +kernel) rfl iX7 (by decide) wd_303) rfl
    (sb_cons (pc2 := 108) (sx_aload_n (show decode cX7_gatherNear 107 = .ok (.aload_n 0, 1) by decide +kernel) rfl) rfl
    (sb_cons (pc2 := 111) (sx_getf (show decode cX7_gatherNear 108 = .ok (.getfield 47, 3) by decide +kernel) rfl iX7 (by decide) wd_300) rfl
    (sb_cons (pc2 := 113) (sx_iload (show decode cX7_gatherNear 111 = .ok (.iload 5, 2) by decide +kernel)) rfl
    (sb_cons (pc2 := 114) (sx_iald (show decode cX7_gatherNear 113 = .ok (.iaload, 1) by decide +kernel)) rfl
    (sb_cons (pc2 := 115) (sx_iast (show decode cX7_gatherNear 114 = .ok (.iastore, 1) by decide +kernel)) rfl
    (sb_cons (pc2 := 116) (sx_aload_n (show decode cX7_gatherNear 115 = .ok (.aload_n 0, 1) by decide +kernel) rfl) rfl
    (sb_cons (pc2 := 119) (sx_getf (show decode cX7_gatherNear 116 = .ok (.getfield 65, 3) by decide +kernel) rfl iX7 (by decide) wd_306) rfl
    (sb_cons (pc2 := 120) (sx_aload_n (show decode cX7_gatherNear 119 = .ok (.aload_n 0, 1) by decide +kernel) rfl) rfl
    (sb_cons (pc2 := 123) (sx_getf (show decode cX7_gatherNear 120 = .ok (.getfield 56, 3) by decide +kernel) rfl iX7 (by decide) wd_303) rfl
    (sb_cons (pc2 := 124) (sx_aload_n (show decode cX7_gatherNear 123 = .ok (.aload_n 0, 1) by decide +kernel) rfl) rfl
    (sb_cons (pc2 := 127) (sx_getf (show decode cX7_gatherNear 124 = .ok (.getfield 38, 3) by decide +kernel) rfl iX7 (by decide) wd_297) rfl
    (sb_cons (pc2 := 128) (sx_iload_n (show decode cX7_gatherNear 127 = .ok (.iload_n 3, 1) by decide +kernel) rfl) rfl
    (sb_cons (pc2 := 129) (sx_iald (show decode cX7_gatherNear 128 = .ok (.iaload, 1) by decide +kernel)) rfl
    (sb_cons (pc2 := 130) (sx_iast (show decode cX7_gatherNear 129 = .ok (.iastore, 1) by decide +kernel)) rfl
    (sb_cons (pc2 := 131) (sx_aload_n (show decode cX7_gatherNear 130 = .ok (.aload_n 0, 1) by decide +kernel) rfl) rfl
    (sb_cons (pc2 := 132) (sx_dup (show decode cX7_gatherNear 131 = .ok (.dup, 1) by decide +kernel)) rfl
    (sb_cons (pc2 := 135) (sx_getf (show decode cX7_gatherNear 132 = .ok (.getfield 56, 3) by decide +kernel) rfl iX7 (by decide) wd_303) rfl
    (sb_cons (pc2 := 136) (sx_iconst (show decode cX7_gatherNear 135 = .ok (.iconst 1, 1) by decide +kernel) (by decide)) rfl
    (sb_cons (pc2 := 137) (sx_iadd (show decode cX7_gatherNear 136 = .ok (.iadd, 1) by decide +kernel)) rfl
    (sb_cons (pc2 := 140) (sx_puti (show decode cX7_gatherNear 137 = .ok (.putfield 56, 3) by decide +kernel) rfl iX7 tyX7_ok nmX7 (by decide) wd_303 rfl (Or.inl rfl)) rfl sb_nil)))))))))))))))))))))))))))))))))))
  (ms_cons
  (sb_cons (pc2 := 143) (sx_iinc (show decode cX7_gatherNear 140 = .ok (.iinc 3 1, 3) by decide +kernel) (by decide)) rfl
    (sb_cons (pc2 := 146) (px_snd_goto (show decode cX7_gatherNear 143 = .ok (.goto (-136), 3) by decide +kernel) (by decide)) rfl sb_nil))
  (ms_cons
  (sb_cons (pc2 := 147) (sx_retv (show decode cX7_gatherNear 146 = .ok (.return_, 1) by decide +kernel) rfl) rfl sb_nil)
  ms_nil)))))))))
def kX7_moveMark (X : px_X) : px_B := [(0, [], [px_aload 0, px_iload 1, px_iload 2, px_cV X 94 3 7, px_push (.int 8), px_iload 2, (px_i2 fun x y => x * y), px_iload 1, (px_i2 fun x y => x + y), px_istore 4, px_aload 0, px_getf 7 10, px_iload 4, px_iald 0, px_istore 5, px_aload 0, px_getf 7 11, px_iload 4, px_iald 0, px_istore 6, px_iload 5, px_istore 7, px_iload 6, px_istore 8, px_aload 0, px_iload 5, px_iload 6, px_push (.long 4611686018427387904), px_cV X 96 4 7, px_lstore 9, px_push (.int (-1)), px_istore 11], 56),
  (56, [true, false, false, true, true, true, true, true, true, true, false, true, false, false, false, false, false], [px_iload 11, px_push (.int 1), px_if2 (fun x y => decide (y < x)) 133, px_push (.int (-1)), px_istore 12], 65),
  (65, [true, false, false, true, true, true, true, true, true, true, false, true, true, false, false, false, false], [px_iload 12, px_push (.int 1), px_if2 (fun x y => decide (y < x)) 127, px_iload 5, px_iload 11, px_iload 3, (px_i2 fun x y => x * y), (px_i2 fun x y => x + y), px_istore 13, px_iload 6, px_iload 12, px_iload 3, (px_i2 fun x y => x * y), (px_i2 fun x y => x + y), px_istore 14, px_aload 0, px_iload 13, px_iload 14, px_lload 9, px_cV X 96 4 7, px_lstore 15, px_lload 15, px_lload 9, px_lcmp, px_if1 (fun x => decide (0 ≤ x)) 121, px_lload 15, px_lstore 9, px_iload 13, px_istore 7, px_iload 14, px_istore 8], 121),
  (121, [true, false, false, true, true, true, true, true, true, true, false, true, true, false, false, false, false], [px_iinc 12 1, px_goto 65], 127),
  (127, [true, false, false, true, true, true, true, true, true, true, false, true, false, false, false, false, false], [px_iinc 11 1, px_goto 56], 133),
  (133, [true, false, false, false, true, true, true, true, true, false, false, false, false, false, false, false, false], [px_aload 0, px_getf 7 10, px_iload 4, px_iload 7, px_iast 0, px_aload 0, px_getf 7 11, px_iload 4, px_iload 8, px_iast 0, px_iload 7, px_iload 5, px_if2 (fun x y => decide (¬ x = y)) 165, px_iload 8, px_iload 6, px_if2 (fun x y => decide (x = y)) 169], 165),
  (165, [false, false, false, false, false, false, false, false, false, false, false, false, false, false, false, false, false], [px_push (.int 1), px_goto 170], 169),
  (169, [false, false, false, false, false, false, false, false, false, false, false, false, false, false, false, false, false], [px_push (.int 0)], 170),
  (170, [false, false, false, false, false, false, false, false, false, false, false, false, false, false, false, false, false], [px_retz], 171)]
set_option maxRecDepth 100000 in
set_option maxHeartbeats 8000000 in
theorem sX7_moveMark (d : Nat) (X : px_X) : px_MS d X YX7_moveMark (kX7_moveMark X) :=
  (ms_cons
  (sb_cons (pc2 := 1) (sx_aload_n (show decode cX7_moveMark 0 = .ok (.aload_n 0, 1) by decide +kernel) rfl) rfl
    (sb_cons (pc2 := 2) (sx_iload_n (show decode cX7_moveMark 1 = .ok (.iload_n 1, 1) by decide +kernel) rfl) rfl
    (sb_cons (pc2 := 3) (sx_iload_n (show decode cX7_moveMark 2 = .ok (.iload_n 2, 1) by decide +kernel) rfl) rfl
    (sb_cons (pc2 := 6) (sx_cV (Y' := YX7_gatherNear) (q := (RX7, TX7, 18)) rfl (show decode cX7_moveMark 3 = .ok (.invokevirtual 107, 3) by decide +kernel) rfl rfl (px_w4 wd_349 wd_350 wd_351 wd_311) wd_348 ⟨by decide, by decide, by decide +kernel⟩ (by decide)) rfl
    (sb_cons (pc2 := 8) (sx_bipush (show decode cX7_moveMark 6 = .ok (.bipush 8, 2) by decide +kernel) (by decide)) rfl
    (sb_cons (pc2 := 9) (sx_iload_n (show decode cX7_moveMark 8 = .ok (.iload_n 2, 1) by decide +kernel) rfl) rfl
    (sb_cons (pc2 := 10) (sx_imul (show decode cX7_moveMark 9 = .ok (.imul, 1) by decide +kernel)) rfl
    (sb_cons (pc2 := 11) (sx_iload_n (show decode cX7_moveMark 10 = .ok (.iload_n 1, 1) by decide +kernel) rfl) rfl
    (sb_cons (pc2 := 12) (sx_iadd (show decode cX7_moveMark 11 = .ok (.iadd, 1) by decide +kernel)) rfl
    (sb_cons (pc2 := 14) (sx_istore (show decode cX7_moveMark 12 = .ok (.istore 4, 2) by decide +kernel)) rfl
    (sb_cons (pc2 := 15) (sx_aload_n (show decode cX7_moveMark 14 = .ok (.aload_n 0, 1) by decide +kernel) rfl) rfl
    (sb_cons (pc2 := 18) (sx_getf (show decode cX7_moveMark 15 = .ok (.getfield 44, 3) by decide +kernel) rfl iX7 (by decide) wd_299) rfl
    (sb_cons (pc2 := 20) (sx_iload (show decode cX7_moveMark 18 = .ok (.iload 4, 2) by decide +kernel)) rfl
    (sb_cons (pc2 := 21) (sx_iald (show decode cX7_moveMark 20 = .ok (.iaload, 1) by decide +kernel)) rfl
    (sb_cons (pc2 := 23) (sx_istore (show decode cX7_moveMark 21 = .ok (.istore 5, 2) by decide +kernel)) rfl
    (sb_cons (pc2 := 24) (sx_aload_n (show decode cX7_moveMark 23 = .ok (.aload_n 0, 1) by decide +kernel) rfl) rfl
    (sb_cons (pc2 := 27) (sx_getf (show decode cX7_moveMark 24 = .ok (.getfield 47, 3) by decide +kernel) rfl iX7 (by decide) wd_300) rfl
    (sb_cons (pc2 := 29) (sx_iload (show decode cX7_moveMark 27 = .ok (.iload 4, 2) by decide +kernel)) rfl
    (sb_cons (pc2 := 30) (sx_iald (show decode cX7_moveMark 29 = .ok (.iaload, 1) by decide +kernel)) rfl
    (sb_cons (pc2 := 32) (sx_istore (show decode cX7_moveMark 30 = .ok (.istore 6, 2) by decide +kernel)) rfl
    (sb_cons (pc2 := 34) (sx_iload (show decode cX7_moveMark 32 = .ok (.iload 5, 2) by decide +kernel)) rfl
    (sb_cons (pc2 := 36) (sx_istore (show decode cX7_moveMark 34 = .ok (.istore 7, 2) by decide +kernel)) rfl
    (sb_cons (pc2 := 38) (sx_iload (show decode cX7_moveMark 36 = .ok (.iload 6, 2) by decide +kernel)) rfl
    (sb_cons (pc2 := 40) (sx_istore (show decode cX7_moveMark 38 = .ok (.istore 8, 2) by decide +kernel)) rfl
    (sb_cons (pc2 := 41) (sx_aload_n (show decode cX7_moveMark 40 = .ok (.aload_n 0, 1) by decide +kernel) rfl) rfl
    (sb_cons (pc2 := 43) (sx_iload (show decode cX7_moveMark 41 = .ok (.iload 5, 2) by decide +kernel)) rfl
    (sb_cons (pc2 := 45) (sx_iload (show decode cX7_moveMark 43 = .ok (.iload 6, 2) by decide +kernel)) rfl
    (sb_cons (pc2 := 48) (sx_ldc2 (show decode cX7_moveMark 45 = .ok (.ldc2_w 111, 3) by decide +kernel) wd_352) rfl
    (sb_cons (pc2 := 51) (sx_cV (Y' := YX7_nearSquares) (q := (RX7, TX7, 18)) rfl (show decode cX7_moveMark 48 = .ok (.invokevirtual 113, 3) by decide +kernel) rfl rfl (px_w4 wd_354 wd_355 wd_356 wd_311) wd_353 ⟨by decide, by decide, by decide +kernel⟩ (by decide)) rfl
    (sb_cons (pc2 := 53) (sx_lstore (show decode cX7_moveMark 51 = .ok (.lstore 9, 2) by decide +kernel)) rfl
    (sb_cons (pc2 := 54) (sx_iconst (show decode cX7_moveMark 53 = .ok (.iconst (-1), 1) by decide +kernel) (by decide)) rfl
    (sb_cons (pc2 := 56) (sx_istore (show decode cX7_moveMark 54 = .ok (.istore 11, 2) by decide +kernel)) rfl sb_nil))))))))))))))))))))))))))))))))
  (ms_cons
  (sb_cons (pc2 := 58) (sx_iload (show decode cX7_moveMark 56 = .ok (.iload 11, 2) by decide +kernel)) rfl
    (sb_cons (pc2 := 59) (sx_iconst (show decode cX7_moveMark 58 = .ok (.iconst 1, 1) by decide +kernel) (by decide)) rfl
    (sb_cons (pc2 := 62) (sx_icmp_gt (show decode cX7_moveMark 59 = .ok (.if_icmp .gt 74, 3) by decide +kernel) (by decide)) rfl
    (sb_cons (pc2 := 63) (sx_iconst (show decode cX7_moveMark 62 = .ok (.iconst (-1), 1) by decide +kernel) (by decide)) rfl
    (sb_cons (pc2 := 65) (sx_istore (show decode cX7_moveMark 63 = .ok (.istore 12, 2) by decide +kernel)) rfl sb_nil)))))
  (ms_cons
  (sb_cons (pc2 := 67) (sx_iload (show decode cX7_moveMark 65 = .ok (.iload 12, 2) by decide +kernel)) rfl
    (sb_cons (pc2 := 68) (sx_iconst (show decode cX7_moveMark 67 = .ok (.iconst 1, 1) by decide +kernel) (by decide)) rfl
    (sb_cons (pc2 := 71) (sx_icmp_gt (show decode cX7_moveMark 68 = .ok (.if_icmp .gt 59, 3) by decide +kernel) (by decide)) rfl
    (sb_cons (pc2 := 73) (sx_iload (show decode cX7_moveMark 71 = .ok (.iload 5, 2) by decide +kernel)) rfl
    (sb_cons (pc2 := 75) (sx_iload (show decode cX7_moveMark 73 = .ok (.iload 11, 2) by decide +kernel)) rfl
    (sb_cons (pc2 := 76) (sx_iload_n (show decode cX7_moveMark 75 = .ok (.iload_n 3, 1) by decide +kernel) rfl) rfl
    (sb_cons (pc2 := 77) (sx_imul (show decode cX7_moveMark 76 = .ok (.imul, 1) by decide +kernel)) rfl
    (sb_cons (pc2 := 78) (sx_iadd (show decode cX7_moveMark 77 = .ok (.iadd, 1) by decide +kernel)) rfl
    (sb_cons (pc2 := 80) (sx_istore (show decode cX7_moveMark 78 = .ok (.istore 13, 2) by decide +kernel)) rfl
    (sb_cons (pc2 := 82) (sx_iload (show decode cX7_moveMark 80 = .ok (.iload 6, 2) by decide +kernel)) rfl
    (sb_cons (pc2 := 84) (sx_iload (show decode cX7_moveMark 82 = .ok (.iload 12, 2) by decide +kernel)) rfl
    (sb_cons (pc2 := 85) (sx_iload_n (show decode cX7_moveMark 84 = .ok (.iload_n 3, 1) by decide +kernel) rfl) rfl
    (sb_cons (pc2 := 86) (sx_imul (show decode cX7_moveMark 85 = .ok (.imul, 1) by decide +kernel)) rfl
    (sb_cons (pc2 := 87) (sx_iadd (show decode cX7_moveMark 86 = .ok (.iadd, 1) by decide +kernel)) rfl
    (sb_cons (pc2 := 89) (sx_istore (show decode cX7_moveMark 87 = .ok (.istore 14, 2) by decide +kernel)) rfl
    (sb_cons (pc2 := 90) (sx_aload_n (show decode cX7_moveMark 89 = .ok (.aload_n 0, 1) by decide +kernel) rfl) rfl
    (sb_cons (pc2 := 92) (sx_iload (show decode cX7_moveMark 90 = .ok (.iload 13, 2) by decide +kernel)) rfl
    (sb_cons (pc2 := 94) (sx_iload (show decode cX7_moveMark 92 = .ok (.iload 14, 2) by decide +kernel)) rfl
    (sb_cons (pc2 := 96) (sx_lload (show decode cX7_moveMark 94 = .ok (.lload 9, 2) by decide +kernel)) rfl
    (sb_cons (pc2 := 99) (sx_cV (Y' := YX7_nearSquares) (q := (RX7, TX7, 18)) rfl (show decode cX7_moveMark 96 = .ok (.invokevirtual 113, 3) by decide +kernel) rfl rfl (px_w4 wd_354 wd_355 wd_356 wd_311) wd_353 ⟨by decide, by decide, by decide +kernel⟩ (by decide)) rfl
    (sb_cons (pc2 := 101) (sx_lstore (show decode cX7_moveMark 99 = .ok (.lstore 15, 2) by decide +kernel)) rfl
    (sb_cons (pc2 := 103) (sx_lload (show decode cX7_moveMark 101 = .ok (.lload 15, 2) by decide +kernel)) rfl
    (sb_cons (pc2 := 105) (sx_lload (show decode cX7_moveMark 103 = .ok (.lload 9, 2) by decide +kernel)) rfl
    (sb_cons (pc2 := 106) (sx_lcmp (show decode cX7_moveMark 105 = .ok (.lcmp, 1) by decide +kernel)) rfl
    (sb_cons (pc2 := 109) (sx_if_ge (show decode cX7_moveMark 106 = .ok (.ifCond .ge 15, 3) by decide +kernel) (by decide)) rfl
    (sb_cons (pc2 := 111) (sx_lload (show decode cX7_moveMark 109 = .ok (.lload 15, 2) by decide +kernel)) rfl
    (sb_cons (pc2 := 113) (sx_lstore (show decode cX7_moveMark 111 = .ok (.lstore 9, 2) by decide +kernel)) rfl
    (sb_cons (pc2 := 115) (sx_iload (show decode cX7_moveMark 113 = .ok (.iload 13, 2) by decide +kernel)) rfl
    (sb_cons (pc2 := 117) (sx_istore (show decode cX7_moveMark 115 = .ok (.istore 7, 2) by decide +kernel)) rfl
    (sb_cons (pc2 := 119) (sx_iload (show decode cX7_moveMark 117 = .ok (.iload 14, 2) by decide +kernel)) rfl
    (sb_cons (pc2 := 121) (sx_istore (show decode cX7_moveMark 119 = .ok (.istore 8, 2) by decide +kernel)) rfl sb_nil)))))))))))))))))))))))))))))))
  (ms_cons
  (sb_cons (pc2 := 124) (sx_iinc (show decode cX7_moveMark 121 = .ok (.iinc 12 1, 3) by decide +kernel) (by decide)) rfl
    (sb_cons (pc2 := 127) (px_snd_goto (show decode cX7_moveMark 124 = .ok (.goto (-59), 3) by decide +kernel) (by decide)) rfl sb_nil))
  (ms_cons
  (sb_cons (pc2 := 130) (sx_iinc (show decode cX7_moveMark 127 = .ok (.iinc 11 1, 3) by decide +kernel) (by decide)) rfl
    (sb_cons (pc2 := 133) (px_snd_goto (show decode cX7_moveMark 130 = .ok (.goto (-74), 3) by decide +kernel) (by decide)) rfl sb_nil))
  (ms_cons
  (sb_cons (pc2 := 134) (sx_aload_n (show decode cX7_moveMark 133 = .ok (.aload_n 0, 1) by decide +kernel) rfl) rfl
    (sb_cons (pc2 := 137) (sx_getf (show decode cX7_moveMark 134 = .ok (.getfield 44, 3) by decide +kernel) rfl iX7 (by decide) wd_299) rfl
    (sb_cons (pc2 := 139) (sx_iload (show decode cX7_moveMark 137 = .ok (.iload 4, 2) by decide +kernel)) rfl
    (sb_cons (pc2 := 141) (sx_iload (show decode cX7_moveMark 139 = .ok (.iload 7, 2) by decide +kernel)) rfl
    (sb_cons (pc2 := 142) (sx_iast (show decode cX7_moveMark 141 = .ok (.iastore, 1) by decide +kernel)) rfl
    (sb_cons (pc2 := 143) (sx_aload_n (show decode cX7_moveMark 142 = .ok (.aload_n 0, 1) by decide +kernel) rfl) rfl
    (sb_cons (pc2 := 146) (sx_getf (show decode cX7_moveMark 143 = .ok (.getfield 47, 3) by decide +kernel) rfl iX7 (by decide) wd_300) rfl
    (sb_cons (pc2 := 148) (sx_iload (show decode cX7_moveMark 146 = .ok (.iload 4, 2) by decide +kernel)) rfl
    (sb_cons (pc2 := 150) (sx_iload (show decode cX7_moveMark 148 = .ok (.iload 8, 2) by decide +kernel)) rfl
    (sb_cons (pc2 := 151) (sx_iast (show decode cX7_moveMark 150 = .ok (.iastore, 1) by decide +kernel)) rfl
    (sb_cons (pc2 := 153) (sx_iload (show decode cX7_moveMark 151 = .ok (.iload 7, 2) by decide +kernel)) rfl
    (sb_cons (pc2 := 155) (sx_iload (show decode cX7_moveMark 153 = .ok (.iload 5, 2) by decide +kernel)) rfl
    (sb_cons (pc2 := 158) (sx_icmp_ne (show decode cX7_moveMark 155 = .ok (.if_icmp .ne 10, 3) by decide +kernel) (by decide)) rfl
    (sb_cons (pc2 := 160) (sx_iload (show decode cX7_moveMark 158 = .ok (.iload 8, 2) by decide +kernel)) rfl
    (sb_cons (pc2 := 162) (sx_iload (show decode cX7_moveMark 160 = .ok (.iload 6, 2) by decide +kernel)) rfl
    (sb_cons (pc2 := 165) (sx_icmp_eq (show decode cX7_moveMark 162 = .ok (.if_icmp .eq 7, 3) by decide +kernel) (by decide)) rfl sb_nil))))))))))))))))
  (ms_cons
  (sb_cons (pc2 := 166) (sx_iconst (show decode cX7_moveMark 165 = .ok (.iconst 1, 1) by decide +kernel) (by decide)) rfl
    (sb_cons (pc2 := 169) (px_snd_goto (show decode cX7_moveMark 166 = .ok (.goto 4, 3) by decide +kernel) (by decide)) rfl sb_nil))
  (ms_cons
  (sb_cons (pc2 := 170) (sx_iconst (show decode cX7_moveMark 169 = .ok (.iconst 0, 1) by decide +kernel) (by decide)) rfl sb_nil)
  (ms_cons
  (sb_cons (pc2 := 171) (sx_retz (show decode cX7_moveMark 170 = .ok (.ireturn, 1) by decide +kernel) rfl) rfl sb_nil)
  ms_nil)))))))))
def kX7_nearSquares (X : px_X) : px_B := [(0, [], [px_push (.long 0), px_lstore 5, px_push (.int 0), px_istore 7], 6),
  (6, [true, true, true, true, false, true, false, true, false, false], [px_iload 7, px_aload 0, px_getf 7 14, px_if2 (fun x y => decide (y ≤ x)) 77, px_lload 5, px_lload 3, px_lcmp, px_if1 (fun x => decide (0 ≤ x)) 77, px_iload 1, px_aload 0, px_getf 7 15, px_iload 7, px_iald 0, (px_i2 fun x y => x - y), px_iload 2, px_aload 0, px_getf 7 16, px_iload 7, px_iald 0, (px_i2 fun x y => x - y), px_aload 0, px_getf 7 17, px_iload 7, px_iald 0, px_cS X 91 3, px_aload 0, px_getf 7 17, px_iload 7, px_iald 0, (px_i2 fun x y => x - y), px_i2l, px_lstore 8, px_lload 5, px_lload 8, px_lload 8, (px_l2 fun x y => x * y), (px_l2 fun x y => x + y), px_lstore 5, px_iinc 7 1, px_goto 6], 77),
  (77, [false, false, false, false, false, true, false, false, false, false], [px_lload 5, px_retl], 80)]
set_option maxRecDepth 100000 in
set_option maxHeartbeats 8000000 in
theorem sX7_nearSquares (d : Nat) (X : px_X) : px_MS d X YX7_nearSquares (kX7_nearSquares X) :=
  (ms_cons
  (sb_cons (pc2 := 1) (sx_lconst (show decode cX7_nearSquares 0 = .ok (.lconst 0, 1) by decide +kernel) (by decide)) rfl
    (sb_cons (pc2 := 3) (sx_lstore (show decode cX7_nearSquares 1 = .ok (.lstore 5, 2) by decide +kernel)) rfl
    (sb_cons (pc2 := 4) (sx_iconst (show decode cX7_nearSquares 3 = .ok (.iconst 0, 1) by decide +kernel) (by decide)) rfl
    (sb_cons (pc2 := 6) (sx_istore (show decode cX7_nearSquares 4 = .ok (.istore 7, 2) by decide +kernel)) rfl sb_nil))))
  (ms_cons
  (sb_cons (pc2 := 8) (sx_iload (show decode cX7_nearSquares 6 = .ok (.iload 7, 2) by decide +kernel)) rfl
    (sb_cons (pc2 := 9) (sx_aload_n (show decode cX7_nearSquares 8 = .ok (.aload_n 0, 1) by decide +kernel) rfl) rfl
    (sb_cons (pc2 := 12) (sx_getf (show decode cX7_nearSquares 9 = .ok (.getfield 56, 3) by decide +kernel) rfl iX7 (by decide) wd_303) rfl
    (sb_cons (pc2 := 15) (sx_icmp_ge (show decode cX7_nearSquares 12 = .ok (.if_icmp .ge 65, 3) by decide +kernel) (by decide)) rfl
    (sb_cons (pc2 := 17) (sx_lload (show decode cX7_nearSquares 15 = .ok (.lload 5, 2) by decide +kernel)) rfl
    (sb_cons (pc2 := 18) (sx_lload_n (show decode cX7_nearSquares 17 = .ok (.lload_n 3, 1) by decide +kernel) rfl) rfl
    (sb_cons (pc2 := 19) (sx_lcmp (show decode cX7_nearSquares 18 = .ok (.lcmp, 1) by decide +kernel)) rfl
    (sb_cons (pc2 := 22) (sx_if_ge (show decode cX7_nearSquares 19 = .ok (.ifCond .ge 58, 3) by decide +kernel) (by decide)) rfl
    (sb_cons (pc2 := 23) (sx_iload_n (show decode cX7_nearSquares 22 = .ok (.iload_n 1, 1) by decide +kernel) rfl) rfl
    (sb_cons (pc2 := 24) (sx_aload_n (show decode cX7_nearSquares 23 = .ok (.aload_n 0, 1) by decide +kernel) rfl) rfl
    (sb_cons (pc2 := 27) (sx_getf (show decode cX7_nearSquares 24 = .ok (.getfield 59, 3) by decide +kernel) rfl iX7 (by decide) wd_304) rfl
    (sb_cons (pc2 := 29) (sx_iload (show decode cX7_nearSquares 27 = .ok (.iload 7, 2) by decide +kernel)) rfl
    (sb_cons (pc2 := 30) (sx_iald (show decode cX7_nearSquares 29 = .ok (.iaload, 1) by decide +kernel)) rfl
    (sb_cons (pc2 := 31) (sx_isub (show decode cX7_nearSquares 30 = .ok (.isub, 1) by decide +kernel)) rfl
    (sb_cons (pc2 := 32) (sx_iload_n (show decode cX7_nearSquares 31 = .ok (.iload_n 2, 1) by decide +kernel) rfl) rfl
    (sb_cons (pc2 := 33) (sx_aload_n (show decode cX7_nearSquares 32 = .ok (.aload_n 0, 1) by decide +kernel) rfl) rfl
    (sb_cons (pc2 := 36) (sx_getf (show decode cX7_nearSquares 33 = .ok (.getfield 62, 3) by decide +kernel) rfl iX7 (by decide) wd_305) rfl
    (sb_cons (pc2 := 38) (sx_iload (show decode cX7_nearSquares 36 = .ok (.iload 7, 2) by decide +kernel)) rfl
    (sb_cons (pc2 := 39) (sx_iald (show decode cX7_nearSquares 38 = .ok (.iaload, 1) by decide +kernel)) rfl
    (sb_cons (pc2 := 40) (sx_isub (show decode cX7_nearSquares 39 = .ok (.isub, 1) by decide +kernel)) rfl
    (sb_cons (pc2 := 41) (sx_aload_n (show decode cX7_nearSquares 40 = .ok (.aload_n 0, 1) by decide +kernel) rfl) rfl
    (sb_cons (pc2 := 44) (sx_getf (show decode cX7_nearSquares 41 = .ok (.getfield 65, 3) by decide +kernel) rfl iX7 (by decide) wd_306) rfl
    (sb_cons (pc2 := 46) (sx_iload (show decode cX7_nearSquares 44 = .ok (.iload 7, 2) by decide +kernel)) rfl
    (sb_cons (pc2 := 47) (sx_iald (show decode cX7_nearSquares 46 = .ok (.iaload, 1) by decide +kernel)) rfl
    (sb_cons (pc2 := 50) (sx_cS (Y' := YX7_distance) rfl (show decode cX7_nearSquares 47 = .ok (.invokestatic 93, 3) by decide +kernel) rfl (px_w3 wd_334 wd_335 wd_311) wd_333 ⟨by decide, by decide, by decide +kernel⟩ (by decide)) rfl
    (sb_cons (pc2 := 51) (sx_aload_n (show decode cX7_nearSquares 50 = .ok (.aload_n 0, 1) by decide +kernel) rfl) rfl
    (sb_cons (pc2 := 54) (sx_getf (show decode cX7_nearSquares 51 = .ok (.getfield 65, 3) by decide +kernel) rfl iX7 (by decide) wd_306) rfl
    (sb_cons (pc2 := 56) (sx_iload (show decode cX7_nearSquares 54 = .ok (.iload 7, 2) by decide +kernel)) rfl
    (sb_cons (pc2 := 57) (sx_iald (show decode cX7_nearSquares 56 = .ok (.iaload, 1) by decide +kernel)) rfl
    (sb_cons (pc2 := 58) (sx_isub (show decode cX7_nearSquares 57 = .ok (.isub, 1) by decide +kernel)) rfl
    (sb_cons (pc2 := 59) (sx_i2l (show decode cX7_nearSquares 58 = .ok (.i2l, 1) by decide +kernel)) rfl
    (sb_cons (pc2 := 61) (sx_lstore (show decode cX7_nearSquares 59 = .ok (.lstore 8, 2) by decide +kernel)) rfl
    (sb_cons (pc2 := 63) (sx_lload (show decode cX7_nearSquares 61 = .ok (.lload 5, 2) by decide +kernel)) rfl
    (sb_cons (pc2 := 65) (sx_lload (show decode cX7_nearSquares 63 = .ok (.lload 8, 2) by decide +kernel)) rfl
    (sb_cons (pc2 := 67) (sx_lload (show decode cX7_nearSquares 65 = .ok (.lload 8, 2) by decide +kernel)) rfl
    (sb_cons (pc2 := 68) (sx_lmul (show decode cX7_nearSquares 67 = .ok (.lmul, 1) by decide +kernel)) rfl
    (sb_cons (pc2 := 69) (sx_ladd (show decode cX7_nearSquares 68 = .ok (.ladd, 1) by decide +kernel)) rfl
    (sb_cons (pc2 := 71) (sx_lstore (show decode cX7_nearSquares 69 = .ok (.lstore 5, 2) by decide +kernel)) rfl
    (sb_cons (pc2 := 74) (sx_iinc (show decode cX7_nearSquares 71 = .ok (.iinc 7 1, 3) by decide +kernel) (by decide)) rfl
    (sb_cons (pc2 := 77) (px_snd_goto (show decode cX7_nearSquares 74 = .ok (.goto (-68), 3) by decide +kernel) (by decide)) rfl sb_nil))))))))))))))))))))))))))))))))))))))))
  (ms_cons
  (sb_cons (pc2 := 79) (sx_lload (show decode cX7_nearSquares 77 = .ok (.lload 5, 2) by decide +kernel)) rfl
    (sb_cons (pc2 := 80) (sx_retl (show decode cX7_nearSquares 79 = .ok (.lreturn, 1) by decide +kernel) rfl) rfl sb_nil))
  ms_nil)))
def kX7_judge (X : px_X) : px_B := [(0, [], [px_push (.int (-1)), px_istore 2, px_push (.int (-1)), px_istore 3, px_push (.int 0), px_istore 4], 7),
  (7, [true, true, true, true, true, false], [px_iload 4, px_aload 0, px_getf 7 1, px_if2 (fun x y => decide (y ≤ x)) 56, px_aload 0, px_iload 4, px_iload 1, px_cV X 89 3 7, px_if1 (fun x => decide (¬ x = 0)) 50, px_aload 0, px_iload 4, px_iload 1, px_cV X 90 3 7, (px_i1m fun x => if 0 ≤ x then x else 0 - x), px_istore 5, px_iload 5, px_iload 3, px_if2 (fun x y => decide (x ≤ y)) 50, px_iload 5, px_istore 3, px_iload 4, px_istore 2], 50),
  (50, [true, true, true, true, true, false], [px_iinc 4 1, px_goto 7], 56),
  (56, [true, true, true, true, false, false], [px_aload 0, px_getf 7 12, px_iload 1, px_iload 3, px_iast 0, px_iload 2, px_if1 (fun x => decide (x < 0)) 76, px_aload 0, px_getf 7 13, px_iload 2, px_iload 1, px_push (.int 1), (px_i2 fun x y => x + y), px_iast 0], 76),
  (76, [false, false, false, false, false, false], [px_retv], 77)]
set_option maxRecDepth 100000 in
set_option maxHeartbeats 8000000 in
theorem sX7_judge (d : Nat) (X : px_X) : px_MS d X YX7_judge (kX7_judge X) :=
  (ms_cons
  (sb_cons (pc2 := 1) (sx_iconst (show decode cX7_judge 0 = .ok (.iconst (-1), 1) by decide +kernel) (by decide)) rfl
    (sb_cons (pc2 := 2) (sx_istore_n (show decode cX7_judge 1 = .ok (.istore_n 2, 1) by decide +kernel) rfl) rfl
    (sb_cons (pc2 := 3) (sx_iconst (show decode cX7_judge 2 = .ok (.iconst (-1), 1) by decide +kernel) (by decide)) rfl
    (sb_cons (pc2 := 4) (sx_istore_n (show decode cX7_judge 3 = .ok (.istore_n 3, 1) by decide +kernel) rfl) rfl
    (sb_cons (pc2 := 5) (sx_iconst (show decode cX7_judge 4 = .ok (.iconst 0, 1) by decide +kernel) (by decide)) rfl
    (sb_cons (pc2 := 7) (sx_istore (show decode cX7_judge 5 = .ok (.istore 4, 2) by decide +kernel)) rfl sb_nil))))))
  (ms_cons
  (sb_cons (pc2 := 9) (sx_iload (show decode cX7_judge 7 = .ok (.iload 4, 2) by decide +kernel)) rfl
    (sb_cons (pc2 := 10) (sx_aload_n (show decode cX7_judge 9 = .ok (.aload_n 0, 1) by decide +kernel) rfl) rfl
    (sb_cons (pc2 := 13) (sx_getf (show decode cX7_judge 10 = .ok (.getfield 15, 3) by decide +kernel) rfl iX7 (by decide) wd_289) rfl
    (sb_cons (pc2 := 16) (sx_icmp_ge (show decode cX7_judge 13 = .ok (.if_icmp .ge 43, 3) by decide +kernel) (by decide)) rfl
    (sb_cons (pc2 := 17) (sx_aload_n (show decode cX7_judge 16 = .ok (.aload_n 0, 1) by decide +kernel) rfl) rfl
    (sb_cons (pc2 := 19) (sx_iload (show decode cX7_judge 17 = .ok (.iload 4, 2) by decide +kernel)) rfl
    (sb_cons (pc2 := 20) (sx_iload_n (show decode cX7_judge 19 = .ok (.iload_n 1, 1) by decide +kernel) rfl) rfl
    (sb_cons (pc2 := 23) (sx_cV (Y' := YX7_isOut) (q := (RX7, TX7, 18)) rfl (show decode cX7_judge 20 = .ok (.invokevirtual 81, 3) by decide +kernel) rfl rfl (px_w4 wd_322 wd_323 wd_324 wd_311) wd_321 ⟨by decide, by decide, by decide +kernel⟩ (by decide)) rfl
    (sb_cons (pc2 := 26) (sx_if_ne (show decode cX7_judge 23 = .ok (.ifCond .ne 27, 3) by decide +kernel) (by decide)) rfl
    (sb_cons (pc2 := 27) (sx_aload_n (show decode cX7_judge 26 = .ok (.aload_n 0, 1) by decide +kernel) rfl) rfl
    (sb_cons (pc2 := 29) (sx_iload (show decode cX7_judge 27 = .ok (.iload 4, 2) by decide +kernel)) rfl
    (sb_cons (pc2 := 30) (sx_iload_n (show decode cX7_judge 29 = .ok (.iload_n 1, 1) by decide +kernel) rfl) rfl
    (sb_cons (pc2 := 33) (sx_cV (Y' := YX7_miss) (q := (RX7, TX7, 18)) rfl (show decode cX7_judge 30 = .ok (.invokevirtual 85, 3) by decide +kernel) rfl rfl (px_w4 wd_326 wd_327 wd_328 wd_311) wd_325 ⟨by decide, by decide, by decide +kernel⟩ (by decide)) rfl
    (sb_cons (pc2 := 36) (sx_mabs (show decode cX7_judge 33 = .ok (.invokestatic 117, 3) by decide +kernel) wd_357 wd_358 wd_67 wd_359) rfl
    (sb_cons (pc2 := 38) (sx_istore (show decode cX7_judge 36 = .ok (.istore 5, 2) by decide +kernel)) rfl
    (sb_cons (pc2 := 40) (sx_iload (show decode cX7_judge 38 = .ok (.iload 5, 2) by decide +kernel)) rfl
    (sb_cons (pc2 := 41) (sx_iload_n (show decode cX7_judge 40 = .ok (.iload_n 3, 1) by decide +kernel) rfl) rfl
    (sb_cons (pc2 := 44) (sx_icmp_le (show decode cX7_judge 41 = .ok (.if_icmp .le 9, 3) by decide +kernel) (by decide)) rfl
    (sb_cons (pc2 := 46) (sx_iload (show decode cX7_judge 44 = .ok (.iload 5, 2) by decide +kernel)) rfl
    (sb_cons (pc2 := 47) (sx_istore_n (show decode cX7_judge 46 = .ok (.istore_n 3, 1) by decide +kernel) rfl) rfl
    (sb_cons (pc2 := 49) (sx_iload (show decode cX7_judge 47 = .ok (.iload 4, 2) by decide +kernel)) rfl
    (sb_cons (pc2 := 50) (sx_istore_n (show decode cX7_judge 49 = .ok (.istore_n 2, 1) by decide +kernel) rfl) rfl sb_nil))))))))))))))))))))))
  (ms_cons
  (sb_cons (pc2 := 53) (sx_iinc (show decode cX7_judge 50 = .ok (.iinc 4 1, 3) by decide +kernel) (by decide)) rfl
    (sb_cons (pc2 := 56) (px_snd_goto (show decode cX7_judge 53 = .ok (.goto (-46), 3) by decide +kernel) (by decide)) rfl sb_nil))
  (ms_cons
  (sb_cons (pc2 := 57) (sx_aload_n (show decode cX7_judge 56 = .ok (.aload_n 0, 1) by decide +kernel) rfl) rfl
    (sb_cons (pc2 := 60) (sx_getf (show decode cX7_judge 57 = .ok (.getfield 50, 3) by decide +kernel) rfl iX7 (by decide) wd_301) rfl
    (sb_cons (pc2 := 61) (sx_iload_n (show decode cX7_judge 60 = .ok (.iload_n 1, 1) by decide +kernel) rfl) rfl
    (sb_cons (pc2 := 62) (sx_iload_n (show decode cX7_judge 61 = .ok (.iload_n 3, 1) by decide +kernel) rfl) rfl
    (sb_cons (pc2 := 63) (sx_iast (show decode cX7_judge 62 = .ok (.iastore, 1) by decide +kernel)) rfl
    (sb_cons (pc2 := 64) (sx_iload_n (show decode cX7_judge 63 = .ok (.iload_n 2, 1) by decide +kernel) rfl) rfl
    (sb_cons (pc2 := 67) (sx_if_lt (show decode cX7_judge 64 = .ok (.ifCond .lt 12, 3) by decide +kernel) (by decide)) rfl
    (sb_cons (pc2 := 68) (sx_aload_n (show decode cX7_judge 67 = .ok (.aload_n 0, 1) by decide +kernel) rfl) rfl
    (sb_cons (pc2 := 71) (sx_getf (show decode cX7_judge 68 = .ok (.getfield 53, 3) by decide +kernel) rfl iX7 (by decide) wd_302) rfl
    (sb_cons (pc2 := 72) (sx_iload_n (show decode cX7_judge 71 = .ok (.iload_n 2, 1) by decide +kernel) rfl) rfl
    (sb_cons (pc2 := 73) (sx_iload_n (show decode cX7_judge 72 = .ok (.iload_n 1, 1) by decide +kernel) rfl) rfl
    (sb_cons (pc2 := 74) (sx_iconst (show decode cX7_judge 73 = .ok (.iconst 1, 1) by decide +kernel) (by decide)) rfl
    (sb_cons (pc2 := 75) (sx_iadd (show decode cX7_judge 74 = .ok (.iadd, 1) by decide +kernel)) rfl
    (sb_cons (pc2 := 76) (sx_iast (show decode cX7_judge 75 = .ok (.iastore, 1) by decide +kernel)) rfl sb_nil))))))))))))))
  (ms_cons
  (sb_cons (pc2 := 77) (sx_retv (show decode cX7_judge 76 = .ok (.return_, 1) by decide +kernel) rfl) rfl sb_nil)
  ms_nil)))))
