/-! the code of methods as pure instructions (written by wip/whole/gen.py) -/
def kX0_init (X : px_X) : px_B := [(0, [], [px_aload 0, px_pop, px_aload 0, px_iload 1, px_puti 0 0, px_aload 0, px_iload 2, px_puti 0 1, px_aload 0, px_iload 3, px_puti 0 2, px_aload 0, px_iload 4, px_puti 0 3, px_aload 0, px_iload 5, px_puti 0 4, px_retv], 32)]
set_option maxRecDepth 100000 in
set_option maxHeartbeats 8000000 in
theorem sX0_init (d : Nat) (X : px_X) : px_MS d X YX0_init (kX0_init X) :=
  (ms_cons
  (sb_cons (pc2 := 1) (sx_aload_n (show decode cX0_init 0 = .ok (.aload_n 0, 1) by decide +kernel) rfl) rfl
    (sb_cons (pc2 := 4) (sx_pop (show decode cX0_init 1 = .ok (.invokespecial 1, 3) by decide +kernel) wd_0 wd_1 wd_2) rfl
    (sb_cons (pc2 := 5) (sx_aload_n (show decode cX0_init 4 = .ok (.aload_n 0, 1) by decide +kernel) rfl) rfl
    (sb_cons (pc2 := 6) (sx_iload_n (show decode cX0_init 5 = .ok (.iload_n 1, 1) by decide +kernel) rfl) rfl
    (sb_cons (pc2 := 9) (sx_puti (show decode cX0_init 6 = .ok (.putfield 7, 3) by decide +kernel) rfl iX0 tyX0_ok nmX0 (by decide) wd_3 rfl (Or.inr ⟨rfl, rfl, rfl⟩)) rfl
    (sb_cons (pc2 := 10) (sx_aload_n (show decode cX0_init 9 = .ok (.aload_n 0, 1) by decide +kernel) rfl) rfl
    (sb_cons (pc2 := 11) (sx_iload_n (show decode cX0_init 10 = .ok (.iload_n 2, 1) by decide +kernel) rfl) rfl
    (sb_cons (pc2 := 14) (sx_puti (show decode cX0_init 11 = .ok (.putfield 13, 3) by decide +kernel) rfl iX0 tyX0_ok nmX0 (by decide) wd_4 rfl (Or.inr ⟨rfl, rfl, rfl⟩)) rfl
    (sb_cons (pc2 := 15) (sx_aload_n (show decode cX0_init 14 = .ok (.aload_n 0, 1) by decide +kernel) rfl) rfl
    (sb_cons (pc2 := 16) (sx_iload_n (show decode cX0_init 15 = .ok (.iload_n 3, 1) by decide +kernel) rfl) rfl
    (sb_cons (pc2 := 19) (sx_puti (show decode cX0_init 16 = .ok (.putfield 16, 3) by decide +kernel) rfl iX0 tyX0_ok nmX0 (by decide) wd_5 rfl (Or.inr ⟨rfl, rfl, rfl⟩)) rfl
    (sb_cons (pc2 := 20) (sx_aload_n (show decode cX0_init 19 = .ok (.aload_n 0, 1) by decide +kernel) rfl) rfl
    (sb_cons (pc2 := 22) (sx_iload (show decode cX0_init 20 = .ok (.iload 4, 2) by decide +kernel)) rfl
    (sb_cons (pc2 := 25) (sx_puti (show decode cX0_init 22 = .ok (.putfield 19, 3) by decide +kernel) rfl iX0 tyX0_ok nmX0 (by decide) wd_6 rfl (Or.inr ⟨rfl, rfl, rfl⟩)) rfl
    (sb_cons (pc2 := 26) (sx_aload_n (show decode cX0_init 25 = .ok (.aload_n 0, 1) by decide +kernel) rfl) rfl
    (sb_cons (pc2 := 28) (sx_iload (show decode cX0_init 26 = .ok (.iload 5, 2) by decide +kernel)) rfl
    (sb_cons (pc2 := 31) (sx_puti (show decode cX0_init 28 = .ok (.putfield 22, 3) by decide +kernel) rfl iX0 tyX0_ok nmX0 (by decide) wd_7 rfl (Or.inr ⟨rfl, rfl, rfl⟩)) rfl
    (sb_cons (pc2 := 32) (sx_retv (show decode cX0_init 31 = .ok (.return_, 1) by decide +kernel) rfl) rfl sb_nil))))))))))))))))))
  ms_nil)
def kX0_end (X : px_X) : px_B := [(0, [], [px_aload 0, px_getf 0 2, px_aload 0, px_getf 0 4, (px_i2 fun x y => x + y), px_reti], 10)]
set_option maxRecDepth 100000 in
set_option maxHeartbeats 8000000 in
theorem sX0_end (d : Nat) (X : px_X) : px_MS d X YX0_end (kX0_end X) :=
  (ms_cons
  (sb_cons (pc2 := 1) (sx_aload_n (show decode cX0_end 0 = .ok (.aload_n 0, 1) by decide +kernel) rfl) rfl
    (sb_cons (pc2 := 4) (sx_getf (show decode cX0_end 1 = .ok (.getfield 16, 3) by decide +kernel) rfl iX0 (by decide) wd_5) rfl
    (sb_cons (pc2 := 5) (sx_aload_n (show decode cX0_end 4 = .ok (.aload_n 0, 1) by decide +kernel) rfl) rfl
    (sb_cons (pc2 := 8) (sx_getf (show decode cX0_end 5 = .ok (.getfield 22, 3) by decide +kernel) rfl iX0 (by decide) wd_7) rfl
    (sb_cons (pc2 := 9) (sx_iadd (show decode cX0_end 8 = .ok (.iadd, 1) by decide +kernel)) rfl
    (sb_cons (pc2 := 10) (sx_reti (show decode cX0_end 9 = .ok (.ireturn, 1) by decide +kernel) rfl) rfl sb_nil))))))
  ms_nil)
def kX0_has (X : px_X) : px_B := [(0, [], [px_aload 0, px_getf 0 0, px_iload 1, px_if2 (fun x y => decide (x = y)) 16, px_aload 0, px_getf 0 1, px_iload 1, px_if2 (fun x y => decide (¬ x = y)) 20], 16),
  (16, [false, false], [px_push (.int 1), px_goto 21], 20),
  (20, [false, false], [px_push (.int 0)], 21),
  (21, [false, false], [px_retz], 22)]
set_option maxRecDepth 100000 in
set_option maxHeartbeats 8000000 in
theorem sX0_has (d : Nat) (X : px_X) : px_MS d X YX0_has (kX0_has X) :=
  (ms_cons
  (sb_cons (pc2 := 1) (sx_aload_n (show decode cX0_has 0 = .ok (.aload_n 0, 1) by decide +kernel) rfl) rfl
    (sb_cons (pc2 := 4) (sx_getf (show decode cX0_has 1 = .ok (.getfield 7, 3) by decide +kernel) rfl iX0 (by decide) wd_3) rfl
    (sb_cons (pc2 := 5) (sx_iload_n (show decode cX0_has 4 = .ok (.iload_n 1, 1) by decide +kernel) rfl) rfl
    (sb_cons (pc2 := 8) (sx_icmp_eq (show decode cX0_has 5 = .ok (.if_icmp .eq 11, 3) by decide +kernel) (by decide)) rfl
    (sb_cons (pc2 := 9) (sx_aload_n (show decode cX0_has 8 = .ok (.aload_n 0, 1) by decide +kernel) rfl) rfl
    (sb_cons (pc2 := 12) (sx_getf (show decode cX0_has 9 = .ok (.getfield 13, 3) by decide +kernel) rfl iX0 (by decide) wd_4) rfl
    (sb_cons (pc2 := 13) (sx_iload_n (show decode cX0_has 12 = .ok (.iload_n 1, 1) by decide +kernel) rfl) rfl
    (sb_cons (pc2 := 16) (sx_icmp_ne (show decode cX0_has 13 = .ok (.if_icmp .ne 7, 3) by decide +kernel) (by decide)) rfl sb_nil))))))))
  (ms_cons
  (sb_cons (pc2 := 17) (sx_iconst (show decode cX0_has 16 = .ok (.iconst 1, 1) by decide +kernel) (by decide)) rfl
    (sb_cons (pc2 := 20) (px_snd_goto (show decode cX0_has 17 = .ok (.goto 4, 3) by decide +kernel) (by decide)) rfl sb_nil))
  (ms_cons
  (sb_cons (pc2 := 21) (sx_iconst (show decode cX0_has 20 = .ok (.iconst 0, 1) by decide +kernel) (by decide)) rfl sb_nil)
  (ms_cons
  (sb_cons (pc2 := 22) (sx_retz (show decode cX0_has 21 = .ok (.ireturn, 1) by decide +kernel) rfl) rfl sb_nil)
  ms_nil))))
def kX0_meets (X : px_X) : px_B := [(0, [], [px_aload 0, px_getf 0 2, px_iload 2, px_if2 (fun x y => decide (y < x)) 20, px_iload 1, px_aload 0, px_cV X 1 1 0, px_if2 (fun x y => decide (y < x)) 20, px_push (.int 1), px_goto 21], 20),
  (20, [false, false, false], [px_push (.int 0)], 21),
  (21, [false, false, false], [px_retz], 22)]
set_option maxRecDepth 100000 in
set_option maxHeartbeats 8000000 in
theorem sX0_meets (d : Nat) (X : px_X) : px_MS d X YX0_meets (kX0_meets X) :=
  (ms_cons
  (sb_cons (pc2 := 1) (sx_aload_n (show decode cX0_meets 0 = .ok (.aload_n 0, 1) by decide +kernel) rfl) rfl
    (sb_cons (pc2 := 4) (sx_getf (show decode cX0_meets 1 = .ok (.getfield 16, 3) by decide +kernel) rfl iX0 (by decide) wd_5) rfl
    (sb_cons (pc2 := 5) (sx_iload_n (show decode cX0_meets 4 = .ok (.iload_n 2, 1) by decide +kernel) rfl) rfl
    (sb_cons (pc2 := 8) (sx_icmp_gt (show decode cX0_meets 5 = .ok (.if_icmp .gt 15, 3) by decide +kernel) (by decide)) rfl
    (sb_cons (pc2 := 9) (sx_iload_n (show decode cX0_meets 8 = .ok (.iload_n 1, 1) by decide +kernel) rfl) rfl
    (sb_cons (pc2 := 10) (sx_aload_n (show decode cX0_meets 9 = .ok (.aload_n 0, 1) by decide +kernel) rfl) rfl
    (sb_cons (pc2 := 13) (sx_cV (Y' := YX0_end) (q := (RX0, TX0, 5)) rfl (show decode cX0_meets 10 = .ok (.invokevirtual 25, 3) by decide +kernel) rfl rfl (px_w4 wd_9 wd_10 wd_11 wd_12) wd_8 ⟨by decide, by decide, by decide +kernel⟩ (by decide)) rfl
    (sb_cons (pc2 := 16) (sx_icmp_gt (show decode cX0_meets 13 = .ok (.if_icmp .gt 7, 3) by decide +kernel) (by decide)) rfl
    (sb_cons (pc2 := 17) (sx_iconst (show decode cX0_meets 16 = .ok (.iconst 1, 1) by decide +kernel) (by decide)) rfl
    (sb_cons (pc2 := 20) (px_snd_goto (show decode cX0_meets 17 = .ok (.goto 4, 3) by decide +kernel) (by decide)) rfl sb_nil))))))))))
  (ms_cons
  (sb_cons (pc2 := 21) (sx_iconst (show decode cX0_meets 20 = .ok (.iconst 0, 1) by decide +kernel) (by decide)) rfl sb_nil)
  (ms_cons
  (sb_cons (pc2 := 22) (sx_retz (show decode cX0_meets 21 = .ok (.ireturn, 1) by decide +kernel) rfl) rfl sb_nil)
  ms_nil)))
