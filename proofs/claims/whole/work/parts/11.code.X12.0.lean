/-! the code of methods as pure instructions (written by wip/whole/gen.py) -/
def kX12_init (X : px_X) : px_B := [(0, [], [px_aload 0, px_pop, px_aload 0, px_push (.int 8), px_newi 0, px_putr 12 1, px_aload 0, px_push (.int 8), px_newi 0, px_putr 12 2, px_aload 0, px_push (.int 8), px_newi 0, px_putr 12 3, px_aload 0, px_push (.int 8), px_newi 0, px_putr 12 4, px_aload 0, px_push (.int 8), px_newi 1, px_putr 12 5, px_aload 0, px_push (.int 24), px_newi 0, px_putr 12 7, px_aload 0, px_push (.int 24), px_newi 0, px_putr 12 8, px_aload 0, px_push (.int 24), px_newi 0, px_putr 12 9, px_aload 0, px_push (.int 24), px_newi 1, px_putr 12 10, px_aload 0, px_push (.int 100), px_puti 12 12, px_aload 0, px_push (.int 20), px_newi 0, px_putr 12 14, px_aload 0, px_push (.int 20), px_newi 0, px_putr 12 15, px_aload 0, px_push (.int 20), px_newi 0, px_putr 12 16, px_aload 0, px_push (.int 20), px_newi 0, px_putr 12 17, px_aload 0, px_push (.int 20), px_newi 0, px_putr 12 18, px_aload 0, px_push (.int 160), px_newi 0, px_putr 12 19, px_aload 0, px_push (.int 20), px_newi 0, px_putr 12 20, px_aload 0, px_push (.int 20), px_newi 0, px_putr 12 21, px_aload 0, px_push (.int 6), px_newi 0, px_putr 12 23, px_aload 0, px_push (.int 6), px_newi 0, px_putr 12 24, px_aload 0, px_push (.int 8), px_newi 0, px_putr 12 27, px_aload 0, px_push (.int 8), px_newi 0, px_putr 12 28, px_aload 0, px_push (.int 8), px_newi 0, px_putr 12 29, px_aload 0, px_push (.int 40), px_newi 0, px_putr 12 31, px_aload 0, px_push (.int 40), px_newi 0, px_putr 12 32, px_aload 0, px_push (.int 40), px_newi 0, px_putr 12 33, px_aload 0, px_push (.int 40), px_newi 0, px_putr 12 34, px_aload 0, px_push (.int 40), px_newi 0, px_putr 12 35, px_aload 0, px_push (.int 160), px_newi 0, px_putr 12 36, px_aload 0, px_push (.int 320), px_newi 0, px_putr 12 39, px_aload 0, px_push (.int 320), px_newi 0, px_putr 12 40, px_aload 0, px_push (.int 16), px_newi 0, px_putr 12 41, px_aload 0, px_push (.int 9), px_newi 0, px_putr 12 43, px_aload 0, px_push (.int 9), px_newi 0, px_putr 12 44, px_aload 0, px_push (.int 4), px_newi 0, px_putr 12 46, px_aload 0, px_push (.int 4), px_newi 0, px_putr 12 50, px_aload 0, px_push (.int 4), px_newi 0, px_putr 12 51, px_aload 0, px_push (.int 160), px_newi 0, px_putr 12 52, px_aload 0, px_push (.int 160), px_newi 1, px_putr 12 53, px_aload 0, px_push (.int 39), px_newi 0, px_dup, px_push (.int 0), px_push (.int 107), px_iast 0, px_dup, px_push (.int 1), px_push (.int 105), px_iast 0, px_dup, px_push (.int 2), px_push (.int 110), px_iast 0, px_dup, px_push (.int 3), px_push (.int 100), px_iast 0, px_dup, px_push (.int 4), px_push (.int 0), px_iast 0, px_dup, px_push (.int 5), px_push (.int 115), px_iast 0, px_dup, px_push (.int 6), px_push (.int 105), px_iast 0, px_dup, px_push (.int 7), px_push (.int 122), px_iast 0, px_dup, px_push (.int 8), px_push (.int 101), px_iast 0, px_dup, px_push (.int 9), px_push (.int 0), px_iast 0, px_dup, px_push (.int 10), px_push (.int 108), px_iast 0, px_dup, px_push (.int 11), px_push (.int 97), px_iast 0, px_dup, px_push (.int 12), px_push (.int 121), px_iast 0, px_dup, px_push (.int 13), px_push (.int 101), px_iast 0, px_dup, px_push (.int 14), px_push (.int 114), px_iast 0, px_dup, px_push (.int 15), px_push (.int 0), px_iast 0, px_dup, px_push (.int 16), px_push (.int 120), px_iast 0, px_dup, px_push (.int 17), px_push (.int 0), px_iast 0, px_dup, px_push (.int 18), px_push (.int 121), px_iast 0, px_dup, px_push (.int 19), px_push (.int 0), px_iast 0, px_dup, px_push (.int 20), px_push (.int 100), px_iast 0, px_dup, px_push (.int 21), px_push (.int 97), px_iast 0, px_dup, px_push (.int 22), px_push (.int 121), px_iast 0, px_dup, px_push (.int 23), px_push (.int 0), px_iast 0, px_dup, px_push (.int 24), px_push (.int 98), px_iast 0, px_dup, px_push (.int 25), px_push (.int 97), px_iast 0, px_dup, px_push (.int 26), px_push (.int 114), px_iast 0, px_dup, px_push (.int 27), px_push (.int 0), px_iast 0, px_dup, px_push (.int 28), px_push (.int 111), px_iast 0, px_dup, px_push (.int 29), px_push (.int 114), px_iast 0, px_dup, px_push (.int 30), px_push (.int 0), px_iast 0, px_dup, px_push (.int 31), px_push (.int 97), px_iast 0, px_dup, px_push (.int 32), px_push (.int 110), px_iast 0, px_dup, px_push (.int 33), px_push (.int 100), px_iast 0, px_dup, px_push (.int 34), px_push (.int 0), px_iast 0, px_dup, px_push (.int 35), px_push (.int 110), px_iast 0, px_dup, px_push (.int 36), px_push (.int 111), px_iast 0, px_dup, px_push (.int 37), px_push (.int 116), px_iast 0, px_dup, px_push (.int 38), px_push (.int 0), px_iast 0, px_putr 12 54, px_aload 0, px_push (.int 180), px_newi 0, px_putr 12 64, px_aload 0, px_push (.int 9), px_newi 0, px_putr 12 66, px_aload 0, px_push (.int 9), px_newi 0, px_putr 12 67, px_aload 0, px_push (.int 4), px_newi 0, px_putr 12 68, px_push (.int 0), px_istore 1], 577),
  (577, [true, true], [px_iload 1, px_push (.int 4), px_if2 (fun x y => decide (y ≤ x)) 595, px_aload 0, px_getf 12 50, px_iload 1, px_push (.int (-1)), px_iast 0, px_iinc 1 1, px_goto 577], 595),
  (595, [false, false], [px_retv], 596)]
set_option maxRecDepth 100000 in
set_option maxHeartbeats 8000000 in
theorem sX12_init (d : Nat) (X : px_X) : px_MS d X YX12_init (kX12_init X) :=
  (ms_cons
  (sb_cons (pc2 := 1) (sx_aload_n (show decode cX12_init 0 = .ok (.aload_n 0, 1) by decide +kernel) rfl) rfl
    (sb_cons (pc2 := 4) (sx_pop (show decode cX12_init 1 = .ok (.invokespecial 1, 3) by decide +kernel) wd_670 wd_1 wd_2) rfl
    (sb_cons (pc2 := 5) (sx_aload_n (show decode cX12_init 4 = .ok (.aload_n 0, 1) by decide +kernel) rfl) rfl
    (sb_cons (pc2 := 7) (sx_bipush (show decode cX12_init 5 = .ok (.bipush 8, 2) by decide +kernel) (by decide)) rfl
    (sb_cons (pc2 := 9) (sx_newi (t := 0) (show decode cX12_init 7 = .ok (.newarray .int, 2) by decide +kernel) rfl (fun _ => rfl) (Or.inl rfl) wd_17) rfl
    (sb_cons (pc2 := 12) (sx_putr (show decode cX12_init 9 = .ok (.putfield 7, 3) by decide +kernel) rfl iX12 tyX12_ok nmX12 (by decide) wd_671 (Or.inr ⟨_, rfl⟩) (Or.inr ⟨rfl, rfl, rfl⟩)) rfl
    (sb_cons (pc2 := 13) (sx_aload_n (show decode cX12_init 12 = .ok (.aload_n 0, 1) by decide +kernel) rfl) rfl
    (sb_cons (pc2 := 15) (sx_bipush (show decode cX12_init 13 = .ok (.bipush 8, 2) by decide +kernel) (by decide)) rfl
    (sb_cons (pc2 := 17) (sx_newi (t := 0) (show decode cX12_init 15 = .ok (.newarray .int, 2) by decide +kernel) rfl (fun _ => rfl) (Or.inl rfl) wd_17) rfl
    (sb_cons (pc2 := 20) (sx_putr (show decode cX12_init 17 = .ok (.putfield 13, 3) by decide +kernel) rfl iX12 tyX12_ok nmX12 (by decide) wd_672 (Or.inr ⟨_, rfl⟩) (Or.inr ⟨rfl, rfl, rfl⟩)) rfl
    (sb_cons (pc2 := 21) (sx_aload_n (show decode cX12_init 20 = .ok (.aload_n 0, 1) by decide +kernel) rfl) rfl
    (sb_cons (pc2 := 23) (sx_bipush (show decode cX12_init 21 = .ok (.bipush 8, 2) by decide +kernel) (by decide)) rfl
    (sb_cons (pc2 := 25) (sx_newi (t := 0) (show decode cX12_init 23 = .ok (.newarray .int, 2) by decide +kernel) rfl (fun _ => rfl) (Or.inl rfl) wd_17) rfl
    (sb_cons (pc2 := 28) (sx_putr (show decode cX12_init 25 = .ok (.putfield 16, 3) by decide +kernel) rfl iX12 tyX12_ok nmX12 (by decide) wd_673 (Or.inr ⟨_, rfl⟩) (Or.inr ⟨rfl, rfl, rfl⟩)) rfl
    (sb_cons (pc2 := 29) (sx_aload_n (show decode cX12_init 28 = .ok (.aload_n 0, 1) by decide +kernel) rfl) rfl
    (sb_cons (pc2 := 31) (sx_bipush (show decode cX12_init 29 = .ok (.bipush 8, 2) by decide +kernel) (by decide)) rfl
    (sb_cons (pc2 := 33) (sx_newi (t := 0) (show decode cX12_init 31 = .ok (.newarray .int, 2) by decide +kernel) rfl (fun _ => rfl) (Or.inl rfl) wd_17) rfl
    (sb_cons (pc2 := 36) (sx_putr (show decode cX12_init 33 = .ok (.putfield 19, 3) by decide +kernel) rfl iX12 tyX12_ok nmX12 (by decide) wd_674 (Or.inr ⟨_, rfl⟩) (Or.inr ⟨rfl, rfl, rfl⟩)) rfl
    (sb_cons (pc2 := 37) (sx_aload_n (show decode cX12_init 36 = .ok (.aload_n 0, 1) by decide +kernel) rfl) rfl
    (sb_cons (pc2 := 39) (sx_bipush (show decode cX12_init 37 = .ok (.bipush 8, 2) by decide +kernel) (by decide)) rfl
    (sb_cons (pc2 := 41) (sx_newi (t := 1) (show decode cX12_init 39 = .ok (.newarray .boolean, 2) by decide +kernel) rfl (fun _ => rfl) (Or.inr rfl) wd_293) rfl
    (sb_cons (pc2 := 44) (sx_putr (show decode cX12_init 41 = .ok (.putfield 22, 3) by decide +kernel) rfl iX12 tyX12_ok nmX12 (by decide) wd_675 (Or.inr ⟨_, rfl⟩) (Or.inr ⟨rfl, rfl, rfl⟩)) rfl
    (sb_cons (pc2 := 45) (sx_aload_n (show decode cX12_init 44 = .ok (.aload_n 0, 1) by decide +kernel) rfl) rfl
    (sb_cons (pc2 := 47) (sx_bipush (show decode cX12_init 45 = .ok (.bipush 24, 2) by decide +kernel) (by decide)) rfl
    (sb_cons (pc2 := 49) (sx_newi (t := 0) (show decode cX12_init 47 = .ok (.newarray .int, 2) by decide +kernel) rfl (fun _ => rfl) (Or.inl rfl) wd_17) rfl
    (sb_cons (pc2 := 52) (sx_putr (show decode cX12_init 49 = .ok (.putfield 26, 3) by decide +kernel) rfl iX12 tyX12_ok nmX12 (by decide) wd_676 (Or.inr ⟨_, rfl⟩) (Or.inr ⟨rfl, rfl, rfl⟩)) rfl
    (sb_cons (pc2 := 53) (sx_aload_n (show decode cX12_init 52 = .ok (.aload_n 0, 1) by decide +kernel) rfl) rfl
    (sb_cons (pc2 := 55) (sx_bipush (show decode cX12_init 53 = .ok (.bipush 24, 2) by decide +kernel) (by decide)) rfl
    (sb_cons (pc2 := 57) (sx_newi (t := 0) (show decode cX12_init 55 = .ok (.newarray .int, 2) by decide +kernel) rfl (fun _ => rfl) (Or.inl rfl) wd_17) rfl
    (sb_cons (pc2 := 60) (sx_putr (show decode cX12_init 57 = .ok (.putfield 29, 3) by decide +kernel) rfl iX12 tyX12_ok nmX12 (by decide) wd_677 (Or.inr ⟨_, rfl⟩) (Or.inr ⟨rfl, rfl, rfl⟩)) rfl
    (sb_cons (pc2 := 61) (sx_aload_n (show decode cX12_init 60 = .ok (.aload_n 0, 1) by decide +kernel) rfl) rfl
    (sb_cons (pc2 := 63) (sx_bipush (show decode cX12_init 61 = .ok (.bipush 24, 2) by decide +kernel) (by decide)) rfl
    (sb_cons (pc2 := 65) (sx_newi (t := 0) (show decode cX12_init 63 = .ok (.newarray .int, 2) by decide +kernel) rfl (fun _ => rfl) (Or.inl rfl) wd_17) rfl
    (sb_cons (pc2 := 68) (sx_putr (show decode cX12_init 65 = .ok (.putfield 32, 3) by decide +kernel) rfl iX12 tyX12_ok nmX12 (by decide) wd_678 (Or.inr ⟨_, rfl⟩) (Or.inr ⟨rfl, rfl, rfl⟩)) rfl
    (sb_cons (pc2 := 69) (sx_aload_n (show decode cX12_init 68 = .ok (.aload_n 0, 1) by decide +kernel) rfl) rfl
    (sb_cons (pc2 := 71) (sx_bipush (show decode cX12_init 69 = .ok (.bipush 24, 2) by decide +kernel) (by decide)) rfl
    (sb_cons (pc2 := 73) (sx_newi (t := 1) (show decode cX12_init 71 = .ok (.newarray .boolean, 2) by decide +kernel) rfl (fun _ => rfl) (Or.inr rfl) wd_293) rfl
    (sb_cons (pc2 := 76) (sx_putr (show decode cX12_init 73 = .ok (.putfield 35, 3) by decide +kernel) rfl iX12 tyX12_ok nmX12 (by decide) wd_679 (Or.inr ⟨_, rfl⟩) (Or.inr ⟨rfl, rfl, rfl⟩)) rfl
    (sb_cons (pc2 := 77) (sx_aload_n (show decode cX12_init 76 = .ok (.aload_n 0, 1) by decide +kernel) rfl) rfl
    (sb_cons (pc2 := 79) (sx_bipush (show decode cX12_init 77 = .ok (.bipush 100, 2) by decide +kernel) (by decide)) rfl
    (sb_cons (pc2 := 82) (sx_puti (show decode cX12_init 79 = .ok (.putfield 38, 3) by decide +kernel) rfl iX12 tyX12_ok nmX12 (by decide) wd_680 rfl (Or.inl rfl)) rfl
    (sb_cons (pc2 := 83) (sx_aload_n (show decode cX12_init 82 = .ok (.aload_n 0, 1) by decide +kernel) rfl) rfl
    (sb_cons (pc2 := 85) (sx_bipush (show decode cX12_init 83 = .ok (.bipush 20, 2) by decide +kernel) (by decide)) rfl
    (sb_cons (pc2 := 87) (sx_newi (t := 0) (show decode cX12_init 85 = .ok (.newarray .int, 2) by decide +kernel) rfl (fun _ => rfl) (Or.inl rfl) wd_17) rfl
    (sb_cons (pc2 := 90) (sx_putr (show decode cX12_init 87 = .ok (.putfield 42, 3) by decide +kernel) rfl iX12 tyX12_ok nmX12 (by decide) wd_681 (Or.inr ⟨_, rfl⟩) (Or.inr ⟨rfl, rfl, rfl⟩)) rfl
    (sb_cons (pc2 := 91) (sx_aload_n (show decode cX12_init 90 = .ok (.aload_n 0, 1) by decide +kernel) rfl) rfl
    (sb_cons (pc2 := 93) (sx_bipush (show decode cX12_init 91 = .ok (.bipush 20, 2) by decide +kernel) (by decide)) rfl
    (sb_cons (pc2 := 95) (sx_newi (t := 0) (show decode cX12_init 93 = .ok (.newarray .int, 2) by decide +kernel) rfl (fun _ => rfl) (Or.inl rfl) wd_17) rfl
    (sb_cons (pc2 := 98) (sx_putr (show decode cX12_init 95 = .ok (.putfield 45, 3) by decide +kernel) rfl iX12 tyX12_ok nmX12 (by decide) wd_682 (Or.inr ⟨_, rfl⟩) (Or.inr ⟨rfl, rfl, rfl⟩)) rfl
    (sb_cons (pc2 := 99) (sx_aload_n (show decode cX12_init 98 = .ok (.aload_n 0, 1) by decide +kernel) rfl) rfl
    (sb_cons (pc2 := 101) (sx_bipush (show decode cX12_init 99 = .ok (.bipush 20, 2) by decide +kernel) (by decide)) rfl
    (sb_cons (pc2 := 103) (sx_newi (t := 0) (show decode cX12_init 101 = .ok (.newarray .int, 2) by decide +kernel) rfl (fun _ => rfl) (Or.inl rfl) wd_17) rfl
    (sb_cons (pc2 := 106) (sx_putr (show decode cX12_init 103 = .ok (.putfield 48, 3) by decide +kernel) rfl iX12 tyX12_ok nmX12 (by decide) wd_683 (Or.inr ⟨_, rfl⟩) (Or.inr ⟨rfl, rfl, rfl⟩)) rfl
    (sb_cons (pc2 := 107) (sx_aload_n (show decode cX12_init 106 = .ok (.aload_n 0, 1) by decide +kernel) rfl) rfl
    (sb_cons (pc2 := 109) (sx_bipush (show decode cX12_init 107 = .ok (.bipush 20, 2) by decide +kernel) (by decide)) rfl
    (sb_cons (pc2 := 111) (sx_newi (t := 0) (show decode cX12_init 109 = .ok (.newarray .int, 2) by decide +kernel) rfl (fun _ => rfl) (Or.inl rfl) wd_17) rfl
    (sb_cons (pc2 := 114) (sx_putr (show decode cX12_init 111 = .ok (.putfield 51, 3) by decide +kernel) rfl iX12 tyX12_ok nmX12 (by decide) wd_684 (Or.inr ⟨_, rfl⟩) (Or.inr ⟨rfl, rfl, rfl⟩)) rfl
    (sb_cons (pc2 := 115) (sx_aload_n (show decode cX12_init 114 = .ok (.aload_n 0, 1) by decide +kernel) rfl) rfl
    (sb_cons (pc2 := 117) (sx_bipush (show decode cX12_init 115 = .ok (.bipush 20, 2) by decide +kernel) (by decide)) rfl
    (sb_cons (pc2 := 119) (sx_newi (t := 0) (show decode cX12_init 117 = .ok (.newarray .int, 2) by decide +kernel) rfl (fun _ => rfl) (Or.inl rfl) wd_17) rfl
    (sb_cons (pc2 := 122) (sx_putr (show decode cX12_init 119 = .ok (.putfield 54, 3) by decide +kernel) rfl iX12 tyX12_ok nmX12 (by decide) wd_685 (Or.inr ⟨_, rfl⟩) (Or.inr ⟨rfl, rfl, rfl⟩)) rfl
    (sb_cons (pc2 := 123) (sx_aload_n (show decode cX12_init 122 = .ok (.aload_n 0, 1) by decide +kernel) rfl) rfl
    (sb_cons (pc2 := 126) (sx_sipush (show decode cX12_init 123 = .ok (.sipush 160, 3) by decide +kernel) (by decide)) rfl
    (sb_cons (pc2 := 128) (sx_newi (t := 0) (show decode cX12_init 126 = .ok (.newarray .int, 2) by decide +kernel) rfl (fun _ => rfl) (Or.inl rfl) wd_17) rfl
    (sb_cons (pc2 := 131) (sx_putr (show decode cX12_init 128 = .ok (.putfield 57, 3) by decide +kernel) rfl iX12 tyX12_ok nmX12 (by decide) wd_686 (Or.inr ⟨_, rfl⟩) (Or.inr ⟨rfl, rfl, rfl⟩)) rfl
    (sb_cons (pc2 := 132) (sx_aload_n (show decode cX12_init 131 = .ok (.aload_n 0, 1) by decide +kernel) rfl) rfl
    (sb_cons (pc2 := 134) (sx_bipush (show decode cX12_init 132 = .ok (.bipush 20, 2) by decide +kernel) (by decide)) rfl
    (sb_cons (pc2 := 136) (sx_newi (t := 0) (show decode cX12_init 134 = .ok (.newarray .int, 2) by decide +kernel) rfl (fun _ => rfl) (Or.inl rfl) wd_17) rfl
    (sb_cons (pc2 := 139) (sx_putr (show decode cX12_init 136 = .ok (.putfield 60, 3) by decide +kernel) rfl iX12 tyX12_ok nmX12 (by decide) wd_687 (Or.inr ⟨_, rfl⟩) (Or.inr ⟨rfl, rfl, rfl⟩)) rfl
    (sb_cons (pc2 := 140) (sx_aload_n (show decode cX12_init 139 = .ok (.aload_n 0, 1) by decide +kernel) rfl) rfl
    (sb_cons (pc2 := 142) (sx_bipush (show decode cX12_init 140 = .ok (.bipush 20, 2) by decide +kernel) (by decide)) rfl
    (sb_cons (pc2 := 144) (sx_newi (t := 0) (show decode cX12_init 142 = .ok (.newarray .int, 2) by decide +kernel) rfl (fun _ => rfl) (Or.inl rfl) wd_17) rfl
    (sb_cons (pc2 := 147) (sx_putr (show decode cX12_init 144 = .ok (.putfield 63, 3) by decide +kernel) rfl iX12 tyX12_ok nmX12 (by decide) wd_688 (Or.inr ⟨_, rfl⟩) (Or.inr ⟨rfl, rfl, rfl⟩)) rfl
    (sb_cons (pc2 := 148) (sx_aload_n (show decode cX12_init 147 = .ok (.aload_n 0, 1) by decide +kernel) rfl) rfl
    (sb_cons (pc2 := 150) (sx_bipush (show decode cX12_init 148 = .ok (.bipush 6, 2) by decide +kernel) (by decide)) rfl
    (sb_cons (pc2 := 152) (sx_newi (t := 0) (show decode cX12_init 150 = .ok (.newarray .int, 2) by decide +kernel) rfl (fun _ => rfl) (Or.inl rfl) wd_17) rfl
    (sb_cons (pc2 := 155) (sx_putr (show decode cX12_init 152 = .ok (.putfield 66, 3) by decide +kernel) rfl iX12 tyX12_ok nmX12 (by decide) wd_689 (Or.inr ⟨_, rfl⟩) (Or.inr ⟨rfl, rfl, rfl⟩)) rfl
    (sb_cons (pc2 := 156) (sx_aload_n (show decode cX12_init 155 = .ok (.aload_n 0, 1) by decide +kernel) rfl) rfl
    (sb_cons (pc2 := 158) (sx_bipush (show decode cX12_init 156 = .ok (.bipush 6, 2) by decide +kernel) (by decide)) rfl
    (sb_cons (pc2 := 160) (sx_newi (t := 0) (show decode cX12_init 158 = .ok (.newarray .int, 2) by decide +kernel) rfl (fun _ => rfl) (Or.inl rfl) wd_17) rfl
    (sb_cons (pc2 := 163) (sx_putr (show decode cX12_init 160 = .ok (.putfield 69, 3) by decide +kernel) rfl iX12 tyX12_ok nmX12 (by decide) wd_690 (Or.inr ⟨_, rfl⟩) (Or.inr ⟨rfl, rfl, rfl⟩)) rfl
    (sb_cons (pc2 := 164) (sx_aload_n (show decode cX12_init 163 = .ok (.aload_n 0, 1) by decide +kernel) rfl) rfl
    (sb_cons (pc2 := 166) (sx_bipush (show decode cX12_init 164 = .ok (.bipush 8, 2) by decide +kernel) (by decide)) rfl
    (sb_cons (pc2 := 168) (sx_newi (t := 0) (show decode cX12_init 166 = .ok (.newarray .int, 2) by decide +kernel) rfl (fun _ => rfl) (Or.inl rfl) wd_17) rfl
    (sb_cons (pc2 := 171) (sx_putr (show decode cX12_init 168 = .ok (.putfield 72, 3) by decide +kernel) rfl iX12 tyX12_ok nmX12 (by decide) wd_691 (Or.inr ⟨_, rfl⟩) (Or.inr ⟨rfl, rfl, rfl⟩)) rfl
    (sb_cons (pc2 := 172) (sx_aload_n (show decode cX12_init 171 = .ok (.aload_n 0, 1) by decide +kernel) rfl) rfl
    (sb_cons (pc2 := 174) (sx_bipush (show decode cX12_init 172 = .ok (.bipush 8, 2) by decide +kernel) (by decide)) rfl
    (sb_cons (pc2 := 176) (sx_newi (t := 0) (show decode cX12_init 174 = .ok (.newarray .int, 2) by decide +kernel) rfl (fun _ => rfl) (Or.inl rfl) wd_17) rfl
    (sb_cons (pc2 := 179) (sx_putr (show decode cX12_init 176 = .ok (.putfield 75, 3) by decide +kernel) rfl iX12 tyX12_ok nmX12 (by decide) wd_692 (Or.inr ⟨_, rfl⟩) (Or.inr ⟨rfl, rfl, rfl⟩)) rfl
    (sb_cons (pc2 := 180) (sx_aload_n (show decode cX12_init 179 = .ok (.aload_n 0, 1) by decide +kernel) rfl) rfl
    (sb_cons (pc2 := 182) (sx_bipush (show decode cX12_init 180 = .ok (.bipush 8, 2) by decide +kernel) (by decide)) rfl
    (sb_cons (pc2 := 184) (sx_newi (t := 0) (show decode cX12_init 182 = .ok (.newarray .int, 2) by decide +kernel) rfl (fun _ => rfl) (Or.inl rfl) wd_17) rfl
    (sb_cons (pc2 := 187) (sx_putr (show decode cX12_init 184 = .ok (.putfield 78, 3) by decide +kernel) rfl iX12 tyX12_ok nmX12 (by decide) wd_693 (Or.inr ⟨_, rfl⟩) (Or.inr ⟨rfl, rfl, rfl⟩)) rfl
    (sb_cons (pc2 := 188) (sx_aload_n (show decode cX12_init 187 = .ok (.aload_n 0, 1) by decide +kernel) rfl) rfl
    (sb_cons (pc2 := 190) (sx_bipush (show decode cX12_init 188 = .ok (.bipush 40, 2) by decide +kernel) (by decide)) rfl
    (sb_cons (pc2 := 192) (sx_newi (t := 0) (show decode cX12_init 190 = .ok (.newarray .int, 2) by decide +kernel) rfl (fun _ => rfl) (Or.inl rfl) wd_17) rfl
    (sb_cons (pc2 := 195) (sx_putr (show decode cX12_init 192 = .ok (.putfield 81, 3) by decide +kernel) rfl iX12 tyX12_ok nmX12 (by decide) wd_694 (Or.inr ⟨_, rfl⟩) (Or.inr ⟨rfl, rfl, rfl⟩)) rfl
    (sb_cons (pc2 := 196) (sx_aload_n (show decode cX12_init 195 = .ok (.aload_n 0, 1) by decide +kernel) rfl) rfl
    (sb_cons (pc2 := 198) (sx_bipush (show decode cX12_init 196 = .ok (.bipush 40, 2) by decide +kernel) (by decide)) rfl
    (sb_cons (pc2 := 200) (sx_newi (t := 0) (show decode cX12_init 198 = .ok (.newarray .int, 2) by decide +kernel) rfl (fun _ => rfl) (Or.inl rfl) wd_17) rfl
    (sb_cons (pc2 := 203) (sx_putr (show decode cX12_init 200 = .ok (.putfield 84, 3) by decide +kernel) rfl iX12 tyX12_ok nmX12 (by decide) wd_695 (Or.inr ⟨_, rfl⟩) (Or.inr ⟨rfl, rfl, rfl⟩)) rfl
    (sb_cons (pc2 := 204) (sx_aload_n (show decode cX12_init 203 = .ok (.aload_n 0, 1) by decide +kernel) rfl) rfl
    (sb_cons (pc2 := 206) (sx_bipush (show decode cX12_init 204 = .ok (.bipush 40, 2) by decide +kernel) (by decide)) rfl
    (sb_cons (pc2 := 208) (sx_newi (t := 0) (show decode cX12_init 206 = .ok (.newarray .int, 2) by decide +kernel) rfl (fun _ => rfl) (Or.inl rfl) wd_17) rfl
    (sb_cons (pc2 := 211) (sx_putr (show decode cX12_init 208 = .ok (.putfield 87, 3) by decide +kernel) rfl iX12 tyX12_ok nmX12 (by decide) wd_696 (Or.inr ⟨_, rfl⟩) (Or.inr ⟨rfl, rfl, rfl⟩)) rfl
    (sb_cons (pc2 := 212) (sx_aload_n (show decode cX12_init 211 = .ok (.aload_n 0, 1) by decide +kernel) rfl) rfl
    (sb_cons (pc2 := 214) (sx_bipush (show decode cX12_init 212 = .ok (.bipush 40, 2) by decide +kernel) (by decide)) rfl
    (sb_cons (pc2 := 216) (sx_newi (t := 0) (show decode cX12_init 214 = .ok (.newarray .int, 2) by decide +kernel) rfl (fun _ => rfl) (Or.inl rfl) wd_17) rfl
    (sb_cons (pc2 := 219) (sx_putr (show decode cX12_init 216 = .ok (.putfield 90, 3) by decide +kernel) rfl iX12 tyX12_ok nmX12 (by decide) wd_697 (Or.inr ⟨_, rfl⟩) (Or.inr ⟨rfl, rfl, rfl⟩)) rfl
    (sb_cons (pc2 := 220) (sx_aload_n (show decode cX12_init 219 = .ok (.aload_n 0, 1) by decide +kernel) rfl) rfl
    (sb_cons (pc2 := 222) (sx_bipush (show decode cX12_init 220 = .ok (.bipush 40, 2) by decide +kernel) (by decide)) rfl
    (sb_cons (pc2 := 224) (sx_newi (t := 0) (show decode cX12_init 222 = .ok (.newarray .int, 2) by decide +kernel) rfl (fun _ => rfl) (Or.inl rfl) wd_17) rfl
    (sb_cons (pc2 := 227) (sx_putr (show decode cX12_init 224 = .ok (.putfield 93, 3) by decide +kernel) rfl iX12 tyX12_ok nmX12 (by decide) wd_698 (Or.inr ⟨_, rfl⟩) (Or.inr ⟨rfl, rfl, rfl⟩)) rfl
    (sb_cons (pc2 := 228) (sx_aload_n (show decode cX12_init 227 = .ok (.aload_n 0, 1) by decide +kernel) rfl) rfl
    (sb_cons (pc2 := 231) (sx_sipush (show decode cX12_init 228 = .ok (.sipush 160, 3) by decide +kernel) (by decide)) rfl
    (sb_cons (pc2 := 233) (sx_newi (t := 0) (show decode cX12_init 231 = .ok (.newarray .int, 2) by decide +kernel) rfl (fun _ => rfl) (Or.inl rfl) wd_17) rfl
    (sb_cons (pc2 := 236) (sx_putr (show decode cX12_init 233 = .ok (.putfield 96, 3) by decide +kernel) rfl iX12 tyX12_ok nmX12 (by decide) wd_699 (Or.inr ⟨_, rfl⟩) (Or.inr ⟨rfl, rfl, rfl⟩)) rfl
    (sb_cons (pc2 := 237) (sx_aload_n (show decode cX12_init 236 = .ok (.aload_n 0, 1) by decide +kernel) rfl) rfl
    (sb_cons (pc2 := 240) (sx_sipush (show decode cX12_init 237 = .ok (.sipush 320, 3) by decide +kernel) (by decide)) rfl
    (sb_cons (pc2 := 242) (sx_newi (t := 0) (show decode cX12_init 240 = .ok (.newarray .int, 2) by decide +kernel) rfl (fun _ => rfl) (Or.inl rfl) wd_17) rfl
    (sb_cons (pc2 := 245) (sx_putr (show decode cX12_init 242 = .ok (.putfield 99, 3) by decide +kernel) rfl iX12 tyX12_ok nmX12 (by decide) wd_700 (Or.inr ⟨_, rfl⟩) (Or.inr ⟨rfl, rfl, rfl⟩)) rfl
    (sb_cons (pc2 := 246) (sx_aload_n (show decode cX12_init 245 = .ok (.aload_n 0, 1) by decide +kernel) rfl) rfl
    (sb_cons (pc2 := 249) (sx_sipush (show decode cX12_init 246 = .ok (.sipush 320, 3) by decide +kernel) (by decide)) rfl
    (sb_cons (pc2 := 251) (sx_newi (t := 0) (show decode cX12_init 249 = .ok (.newarray .int, 2) by decide +kernel) rfl (fun _ => rfl) (Or.inl rfl) wd_17) rfl
    (sb_cons (pc2 := 254) (sx_putr (show decode cX12_init 251 = .ok (.putfield 102, 3) by decide +kernel) rfl iX12 tyX12_ok nmX12 (by decide) wd_701 (Or.inr ⟨_, rfl⟩) (Or.inr ⟨rfl, rfl, rfl⟩)) rfl
    (sb_cons (pc2 := 255) (sx_aload_n (show decode cX12_init 254 = .ok (.aload_n 0, 1) by decide +kernel) rfl) rfl
    (sb_cons (pc2 := 257) (sx_bipush (show decode cX12_init 255 = .ok (.bipush 16, 2) by decide +kernel) (by decide)) rfl
    (sb_cons (pc2 := 259) (sx_newi (t := 0) (show decode cX12_init 257 = .ok (.newarray .int, 2) by decide +kernel) rfl (fun _ => rfl) (Or.inl rfl) wd_17) rfl
    (sb_cons (pc2 := 262) (sx_putr (show decode cX12_init 259 = .ok (.putfield 105, 3) by decide +kernel) rfl iX12 tyX12_ok nmX12 (by decide) wd_702 (Or.inr ⟨_, rfl⟩) (Or.inr ⟨rfl, rfl, rfl⟩)) rfl
    (sb_cons (pc2 := 263) (sx_aload_n (show decode cX12_init 262 = .ok (.aload_n 0, 1) by decide +kernel) rfl) rfl
    (sb_cons (pc2 := 265) (sx_bipush (show decode cX12_init 263 = .ok (.bipush 9, 2) by decide +kernel) (by decide)) rfl
    (sb_cons (pc2 := 267) (sx_newi (t := 0) (show decode cX12_init 265 = .ok (.newarray .int, 2) by decide +kernel) rfl (fun _ => rfl) (Or.inl rfl) wd_17) rfl
    (sb_cons (pc2 := 270) (sx_putr (show decode cX12_init 267 = .ok (.putfield 108, 3) by decide +kernel) rfl iX12 tyX12_ok nmX12 (by decide) wd_703 (Or.inr ⟨_, rfl⟩) (Or.inr ⟨rfl, rfl, rfl⟩)) rfl
    (sb_cons (pc2 := 271) (sx_aload_n (show decode cX12_init 270 = .ok (.aload_n 0, 1) by decide +kernel) rfl) rfl
    (sb_cons (pc2 := 273) (sx_bipush (show decode cX12_init 271 = .ok (.bipush 9, 2) by decide +kernel) (by decide)) rfl
    (sb_cons (pc2 := 275) (sx_newi (t := 0) (show decode cX12_init 273 = .ok (.newarray .int, 2) by decide +kernel) rfl (fun _ => rfl) (Or.inl rfl) wd_17) rfl
    (sb_cons (pc2 := 278) (sx_putr (show decode cX12_init 275 = .ok (.putfield 111, 3) by decide +kernel) rfl iX12 tyX12_ok nmX12 (by decide) wd_704 (Or.inr ⟨_, rfl⟩) (Or.inr ⟨rfl, rfl, rfl⟩)) rfl
    (sb_cons (pc2 := 279) (sx_aload_n (show decode cX12_init 278 = .ok (.aload_n 0, 1) by decide +kernel) rfl) rfl
    (sb_cons (pc2 := 280) (sx_iconst (show decode cX12_init 279 = .ok (.iconst 4, 1) by decide +kernel) (by decide)) rfl
    (sb_cons (pc2 := 282) (sx_newi (t := 0) (show decode cX12_init 280 = .ok (.newarray .int, 2) by decide +kernel) rfl (fun _ => rfl) (Or.inl rfl) wd_17) rfl
    (sb_cons (pc2 := 285) (sx_putr (show decode cX12_init 282 = .ok (.putfield 114, 3) by decide +kernel) rfl iX12 tyX12_ok nmX12 (by decide) wd_705 (Or.inr ⟨_, rfl⟩) (Or.inr ⟨rfl, rfl, rfl⟩)) rfl
    (sb_cons (pc2 := 286) (sx_aload_n (show decode cX12_init 285 = .ok (.aload_n 0, 1) by decide +kernel) rfl) rfl
    (sb_cons (pc2 := 287) (sx_iconst (show decode cX12_init 286 = .ok (.iconst 4, 1) by decide +kernel) (by decide)) rfl
    (sb_cons (pc2 := 289) (sx_newi (t := 0) (show decode cX12_init 287 = .ok (.newarray .int, 2) by decide +kernel) rfl (fun _ => rfl) (Or.inl rfl) wd_17) rfl
    (sb_cons (pc2 := 292) (sx_putr (show decode cX12_init 289 = .ok (.putfield 117, 3) by decide +kernel) rfl iX12 tyX12_ok nmX12 (by decide) wd_706 (Or.inr ⟨_, rfl⟩) (Or.inr ⟨rfl, rfl, rfl⟩)) rfl
    (sb_cons (pc2 := 293) (sx_aload_n (show decode cX12_init 292 = .ok (.aload_n 0, 1) by decide +kernel) rfl) rfl
    (sb_cons (pc2 := 294) (sx_iconst (show decode cX12_init 293 = .ok (.iconst 4, 1) by decide +kernel) (by decide)) rfl
    (sb_cons (pc2 := 296) (sx_newi (t := 0) (show decode cX12_init 294 = .ok (.newarray .int, 2) by decide +kernel) rfl (fun _ => rfl) (Or.inl rfl) wd_17) rfl
    (sb_cons (pc2 := 299) (sx_putr (show decode cX12_init 296 = .ok (.putfield 120, 3) by decide +kernel) rfl iX12 tyX12_ok nmX12 (by decide) wd_707 (Or.inr ⟨_, rfl⟩) (Or.inr ⟨rfl, rfl, rfl⟩)) rfl
    (sb_cons (pc2 := 300) (sx_aload_n (show decode cX12_init 299 = .ok (.aload_n 0, 1) by decide +kernel) rfl) rfl
    (sb_cons (pc2 := 303) (sx_sipush (show decode cX12_init 300 = .ok (.sipush 160, 3) by decide +kernel) (by decide)) rfl
    (sb_cons (pc2 := 305) (sx_newi (t := 0) (show decode cX12_init 303 = .ok (.newarray .int, 2) by decide +kernel) rfl (fun _ => rfl) (Or.inl rfl) wd_17) rfl
    (sb_cons (pc2 := 308) (sx_putr (show decode cX12_init 305 = .ok (.putfield 123, 3) by decide +kernel) rfl iX12 tyX12_ok nmX12 (by decide) wd_708 (Or.inr ⟨_, rfl⟩) (Or.inr ⟨rfl, rfl, rfl⟩)) rfl
    (sb_cons (pc2 := 309) (sx_aload_n (show decode cX12_init 308 = .ok (.aload_n 0, 1) by decide +kernel) rfl) rfl
    (sb_cons (pc2 := 312) (sx_sipush (show decode cX12_init 309 = .ok (.sipush 160, 3) by decide +kernel) (by decide)) rfl
    (sb_cons (pc2 := 314) (sx_newi (t := 1) (show decode cX12_init 312 = .ok (.newarray .boolean, 2) by decide +kernel) rfl (fun _ => rfl) (Or.inr rfl) wd_293) rfl
    (sb_cons (pc2 := 317) (sx_putr (show decode cX12_init 314 = .ok (.putfield 126, 3) by decide +kernel) rfl iX12 tyX12_ok nmX12 (by decide) wd_709 (Or.inr ⟨_, rfl⟩) (Or.inr ⟨rfl, rfl, rfl⟩)) rfl
    (sb_cons (pc2 := 318) (sx_aload_n (show decode cX12_init 317 = .ok (.aload_n 0, 1) by decide +kernel) rfl) rfl
    (sb_cons (pc2 := 320) (sx_bipush (show decode cX12_init 318 = .ok (.bipush 39, 2) by decide +kernel) (by decide)) rfl
    (sb_cons (pc2 := 322) (sx_newi (t := 0) (show decode cX12_init 320 = .ok (.newarray .int, 2) by decide +kernel) rfl (fun _ => rfl) (Or.inl rfl) wd_17) rfl
    (sb_cons (pc2 := 323) (sx_dup (show decode cX12_init 322 = .ok (.dup, 1) by decide +kernel)) rfl
    (sb_cons (pc2 := 324) (sx_iconst (show decode cX12_init 323 = .ok (.iconst 0, 1) by decide +kernel) (by decide)) rfl
    (sb_cons (pc2 := 326) (sx_bipush (show decode cX12_init 324 = .ok (.bipush 107, 2) by decide +kernel) (by decide)) rfl
    (sb_cons (pc2 := 327) (sx_iast (show decode cX12_init 326 = .ok (.iastore, 1) by decide +kernel)) rfl
    (sb_cons (pc2 := 328) (sx_dup (show decode cX12_init 327 = .ok (.dup, 1) by decide +kernel)) rfl
    (sb_cons (pc2 := 329) (sx_iconst (show decode cX12_init 328 = .ok (.iconst 1, 1) by decide +kernel) (by decide)) rfl
    (sb_cons (pc2 := 331) (sx_bipush (show decode cX12_init 329 = .ok (.bipush 105, 2) by decide +kernel) (by decide)) rfl
    (sb_cons (pc2 := 332) (sx_iast (show decode cX12_init 331 = .ok (.iastore, 1) by decide +kernel)) rfl
    (sb_cons (pc2 := 333) (sx_dup (show decode cX12_init 332 = .ok (.dup, 1) by decide +kernel)) rfl
    (sb_cons (pc2 := 334) (sx_iconst (show decode cX12_init 333 = .ok (.iconst 2, 1) by decide +kernel) (by decide)) rfl
    (sb_cons (pc2 := 336) (sx_bipush (show decode cX12_init 334 = .ok (.bipush 110, 2) by decide +kernel) (by decide)) rfl
    (sb_cons (pc2 := 337) (sx_iast (show decode cX12_init 336 = .ok (.iastore, 1) by decide +kernel)) rfl
    (sb_cons (pc2 := 338) (sx_dup (show decode cX12_init 337 = .ok (.dup, 1) by decide +kernel)) rfl
    (sb_cons (pc2 := 339) (sx_iconst (show decode cX12_init 338 = .ok (.iconst 3, 1) by decide +kernel) (by decide)) rfl
    (sb_cons (pc2 := 341) (sx_bipush (show decode cX12_init 339 = .ok (.bipush 100, 2) by decide +kernel) (by decide)) rfl
    (sb_cons (pc2 := 342) (sx_iast (show decode cX12_init 341 = .ok (.iastore, 1) by decide +kernel)) rfl
    (sb_cons (pc2 := 343) (sx_dup (show decode cX12_init 342 = .ok (.dup, 1) by decide +kernel)) rfl
    (sb_cons (pc2 := 344) (sx_iconst (show decode cX12_init 343 = .ok (.iconst 4, 1) by decide +kernel) (by decide)) rfl
    (sb_cons (pc2 := 345) (sx_iconst (show decode cX12_init 344 = .ok (.iconst 0, 1) by decide +kernel) (by decide)) rfl
    (sb_cons (pc2 := 346) (sx_iast (show decode cX12_init 345 = .ok (.iastore, 1) by decide +kernel)) rfl
    (sb_cons (pc2 := 347) (sx_dup (show decode cX12_init 346 = .ok (.dup, 1) by decide +kernel)) rfl
    (sb_cons (pc2 := 348) (sx_iconst (show decode cX12_init 347 = .ok (.iconst 5, 1) by decide +kernel) (by decide)) rfl
    (sb_cons (pc2 := 350) (sx_bipush (show decode cX12_init 348 = .ok (.bipush 115, 2) by decide +kernel) (by decide)) rfl
    (sb_cons (pc2 := 351) (sx_iast (show decode cX12_init 350 = .ok (.iastore, 1) by decide +kernel)) rfl
    (sb_cons (pc2 := 352) (sx_dup (show decode cX12_init 351 = .ok (.dup, 1) by decide +kernel)) rfl
    (sb_cons (pc2 := 354) (sx_bipush (show decode cX12_init 352 = .ok (.bipush 6, 2) by decide +kernel) (by decide)) rfl
    (sb_cons (pc2 := 356) (sx_bipush (show decode cX12_init 354 = .ok (.bipush 105, 2) by decide +kernel) (by decide)) rfl
    (sb_cons (pc2 := 357) (sx_iast (show decode cX12_init 356 = .ok (.iastore, 1) by decide +kernel)) rfl
    (sb_cons (pc2 := 358) (sx_dup (show decode cX12_init 357 = .ok (.dup, 1) by decide +kernel)) rfl
    (sb_cons (pc2 := 360) (sx_bipush (show decode cX12_init 358 = .ok (.bipush 7, 2) by decide +kernel) (by decide)) rfl
    (sb_cons (pc2 := 362) (sx_bipush (show decode cX12_init 360 = .ok (.bipush 122, 2) by decide +kernel) (by decide)) rfl
    (sb_cons (pc2 := 363) (sx_iast (show decode cX12_init 362 = .ok (.iastore, 1) by decide +kernel)) rfl
    (sb_cons (pc2 := 364) (sx_dup (show decode cX12_init 363 = .ok (.dup, 1) by decide +kernel)) rfl
    (sb_cons (pc2 := 366) (sx_bipush (show decode cX12_init 364 = .ok (.bipush 8, 2) by decide +kernel) (by decide)) rfl
    (sb_cons (pc2 := 368) (sx_bipush (show decode cX12_init 366 = .ok (.bipush 101, 2) by decide +kernel) (by decide)) rfl
    (sb_cons (pc2 := 369) (sx_iast (show decode cX12_init 368 = .ok (.iastore, 1) by decide +kernel)) rfl
    (sb_cons (pc2 := 370) (sx_dup (show decode cX12_init 369 = .ok (.dup, 1) by decide +kernel)) rfl
    (sb_cons (pc2 := 372) (sx_bipush (show decode cX12_init 370 = .ok (.bipush 9, 2) by decide +kernel) (by decide)) rfl
    (sb_cons (pc2 := 373) (sx_iconst (show decode cX12_init 372 = .ok (.iconst 0, 1) by decide +kernel) (by decide)) rfl
    (sb_cons (pc2 := 374) (sx_iast (show decode cX12_init 373 = .ok (.iastore, 1) by decide +kernel)) rfl
    (sb_cons (pc2 := 375) (sx_dup (show decode cX12_init 374 = .ok (.dup, 1) by decide +kernel)) rfl
    (sb_cons (pc2 := 377) (sx_bipush (show decode cX12_init 375 = .ok (.bipush 10, 2) by decide +kernel) (by decide)) rfl
    (sb_cons (pc2 := 379) (sx_bipush (show decode cX12_init 377 = .ok (.bipush 108, 2) by decide +kernel) (by decide)) rfl
    (sb_cons (pc2 := 380) (sx_iast (show decode cX12_init 379 = .ok (.iastore, 1) by decide +kernel)) rfl
    (sb_cons (pc2 := 381) (sx_dup (show decode cX12_init 380 = .ok (.dup, 1) by decide +kernel)) rfl
    (sb_cons (pc2 := 383) (sx_bipush (show decode cX12_init 381 = .ok (.bipush 11, 2) by decide +kernel) (by decide)) rfl
    (sb_cons (pc2 := 385) (sx_bipush (show decode cX12_init 383 = .ok (.bipush 97, 2) by decide +kernel) (by decide)) rfl
    (sb_cons (pc2 := 386) (sx_iast (show decode cX12_init 385 = .ok (.iastore, 1) by decide +kernel)) rfl
    (sb_cons (pc2 := 387) (sx_dup (show decode cX12_init 386 = .ok (.dup, 1) by decide +kernel)) rfl
    (sb_cons (pc2 := 389) (sx_bipush (show decode cX12_init 387 = .ok (.bipush 12, 2) by decide +kernel) (by decide)) rfl
    (sb_cons (pc2 := 391) (sx_bipush (show decode cX12_init 389 = .ok (.bipush 121, 2) by decide +kernel) (by decide)) rfl
    (sb_cons (pc2 := 392) (sx_iast (show decode cX12_init 391 = .ok (.iastore, 1) by decide +kernel)) rfl
    (sb_cons (pc2 := 393) (sx_dup (show decode cX12_init 392 = .ok (.dup, 1) by decide +kernel)) rfl
    (sb_cons (pc2 := 395) (sx_bipush (show decode cX12_init 393 = .ok (.bipush 13, 2) by decide +kernel) (by decide)) rfl
    (sb_cons (pc2 := 397) (sx_bipush (show decode cX12_init 395 = .ok (.bipush 101, 2) by decide +kernel) (by decide)) rfl
    (sb_cons (pc2 := 398) (sx_iast (show decode cX12_init 397 = .ok (.iastore, 1) by decide +kernel)) rfl
    (sb_cons (pc2 := 399) (sx_dup (show decode cX12_init 398 = .ok (.dup, 1) by decide +kernel)) rfl
    (sb_cons (pc2 := 401) (sx_bipush (show decode cX12_init 399 = .ok (.bipush 14, 2) by decide +kernel) (by decide)) rfl
    (sb_cons (pc2 := 403) (sx_bipush (show decode cX12_init 401 = .ok (.bipush 114, 2) by decide +kernel) (by decide)) rfl
    (sb_cons (pc2 := 404) (sx_iast (show decode cX12_init 403 = .ok (.iastore, 1) by decide +kernel)) rfl
    (sb_cons (pc2 := 405) (sx_dup (show decode cX12_init 404 = .ok (.dup, 1) by decide +kernel)) rfl
    (sb_cons (pc2 := 407) (sx_bipush (show decode cX12_init 405 = .ok (.bipush 15, 2) by decide +kernel) (by decide)) rfl
    (sb_cons (pc2 := 408) (sx_iconst (show decode cX12_init 407 = .ok (.iconst 0, 1) by decide +kernel) (by decide)) rfl
    (sb_cons (pc2 := 409) (sx_iast (show decode cX12_init 408 = .ok (.iastore, 1) by decide +kernel)) rfl
    (sb_cons (pc2 := 410) (sx_dup (show decode cX12_init 409 = .ok (.dup, 1) by decide +kernel)) rfl
    (sb_cons (pc2 := 412) (sx_bipush (show decode cX12_init 410 = .ok (.bipush 16, 2) by decide +kernel) (by decide)) rfl
    (sb_cons (pc2 := 414) (sx_bipush (show decode cX12_init 412 = .ok (.bipush 120, 2) by decide +kernel) (by decide)) rfl
    (sb_cons (pc2 := 415) (sx_iast (show decode cX12_init 414 = .ok (.iastore, 1) by decide +kernel)) rfl
    (sb_cons (pc2 := 416) (sx_dup (show decode cX12_init 415 = .ok (.dup, 1) by decide +kernel)) rfl
    (sb_cons (pc2 := 418) (sx_bipush (show decode cX12_init 416 = .ok (.bipush 17, 2) by decide +kernel) (by decide)) rfl
    (sb_cons (pc2 := 419) (sx_iconst (show decode cX12_init 418 = .ok (.iconst 0, 1) by decide +kernel) (by decide)) rfl
    (sb_cons (pc2 := 420) (sx_iast (show decode cX12_init 419 = .ok (.iastore, 1) by decide +kernel)) rfl
    (sb_cons (pc2 := 421) (sx_dup (show decode cX12_init 420 = .ok (.dup, 1) by decide +kernel)) rfl
    (sb_cons (pc2 := 423) (sx_bipush (show decode cX12_init 421 = .ok (.bipush 18, 2) by decide +kernel) (by decide)) rfl
    (sb_cons (pc2 := 425) (sx_bipush (show decode cX12_init 423 = .ok (.bipush 121, 2) by decide +kernel) (by decide)) rfl
    (sb_cons (pc2 := 426) (sx_iast (show decode cX12_init 425 = .ok (.iastore, 1) by decide +kernel)) rfl
    (sb_cons (pc2 := 427) (sx_dup (show decode cX12_init 426 = .ok (.dup, 1) by decide +kernel)) rfl
    (sb_cons (pc2 := 429) (sx_bipush (show decode cX12_init 427 = .ok (.bipush 19, 2) by decide +kernel) (by decide)) rfl
    (sb_cons (pc2 := 430) (sx_iconst (show decode cX12_init 429 = .ok (.iconst 0, 1) by decide +kernel) (by decide)) rfl
    (sb_cons (pc2 := 431) (sx_iast (show decode cX12_init 430 = .ok (.iastore, 1) by decide +kernel)) rfl
    (sb_cons (pc2 := 432) (sx_dup (show decode cX12_init 431 = .ok (.dup, 1) by decide +kernel)) rfl
    (sb_cons (pc2 := 434) (sx_bipush (show decode cX12_init 432 = .ok (.bipush 20, 2) by decide +kernel) (by decide)) rfl
    (sb_cons (pc2 := 436) (sx_bipush (show decode cX12_init 434 = .ok (.bipush 100, 2) by decide +kernel) (by decide)) rfl
    (sb_cons (pc2 := 437) (sx_iast (show decode cX12_init 436 = .ok (.iastore, 1) by decide +kernel)) rfl
    (sb_cons (pc2 := 438) (sx_dup (show decode cX12_init 437 = .ok (.dup, 1) by decide +kernel)) rfl
    (sb_cons (pc2 := 440) (sx_bipush (show decode cX12_init 438 = .ok (.bipush 21, 2) by decide +kernel) (by decide)) rfl
    (sb_cons (pc2 := 442) (sx_bipush (show decode cX12_init 440 = .ok (.bipush 97, 2) by decide +kernel) (by decide)) rfl
    (sb_cons (pc2 := 443) (sx_iast (show decode cX12_init 442 = .ok (.iastore, 1) by decide +kernel)) rfl
    (sb_cons (pc2 := 444) (sx_dup (show decode cX12_init 443 = .ok (.dup, 1) by decide +kernel)) rfl
    (sb_cons (pc2 := 446) (sx_bipush (show decode cX12_init 444 = .ok (.bipush 22, 2) by decide +kernel) (by decide)) rfl
    (sb_cons (pc2 := 448) (sx_bipush (show decode cX12_init 446 = .ok (.bipush 121, 2) by decide +kernel) (by decide)) rfl
    (sb_cons (pc2 := 449) (sx_iast (show decode cX12_init 448 = .ok (.iastore, 1) by decide +kernel)) rfl
    (sb_cons (pc2 := 450) (sx_dup (show decode cX12_init 449 = .ok (.dup, 1) by decide +kernel)) rfl
    (sb_cons (pc2 := 452) (sx_bipush (show decode cX12_init 450 = .ok (.bipush 23, 2) by decide +kernel) (by decide)) rfl
    (sb_cons (pc2 := 453) (sx_iconst (show decode cX12_init 452 = .ok (.iconst 0, 1) by decide +kernel) (by decide)) rfl
    (sb_cons (pc2 := 454) (sx_iast (show decode cX12_init 453 = .ok (.iastore, 1) by decide +kernel)) rfl
    (sb_cons (pc2 := 455) (sx_dup (show decode cX12_init 454 = .ok (.dup, 1) by decide +kernel)) rfl
    (sb_cons (pc2 := 457) (sx_bipush (show decode cX12_init 455 = .ok (.bipush 24, 2) by decide +kernel) (by decide)) rfl
    (sb_cons (pc2 := 459) (sx_bipush (show decode cX12_init 457 = .ok (.bipush 98, 2) by decide +kernel) (by decide)) rfl
    (sb_cons (pc2 := 460) (sx_iast (show decode cX12_init 459 = .ok (.iastore, 1) by decide +kernel)) rfl
    (sb_cons (pc2 := 461) (sx_dup (show decode cX12_init 460 = .ok (.dup, 1) by decide +kernel)) rfl
    (sb_cons (pc2 := 463) (sx_bipush (show decode cX12_init 461 = .ok (.bipush 25, 2) by decide +kernel) (by decide)) rfl
    (sb_cons (pc2 := 465) (sx_bipush (show decode cX12_init 463 = .ok (.bipush 97, 2) by decide +kernel) (by decide)) rfl
    (sb_cons (pc2 := 466) (sx_iast (show decode cX12_init 465 = .ok (.iastore, 1) by decide +kernel)) rfl
    (sb_cons (pc2 := 467) (sx_dup (show decode cX12_init 466 = .ok (.dup, 1) by decide +kernel)) rfl
    (sb_cons (pc2 := 469) (sx_bipush (show decode cX12_init 467 = .ok (.bipush 26, 2) by decide +kernel) (by decide)) rfl
    (sb_cons (pc2 := 471) (sx_bipush (show decode cX12_init 469 = .ok (.bipush 114, 2) by decide +kernel) (by decide)) rfl
    (sb_cons (pc2 := 472) (sx_iast (show decode cX12_init 471 = .ok (.iastore, 1) by decide +kernel)) rfl
    (sb_cons (pc2 := 473) (sx_dup (show decode cX12_init 472 = .ok (.dup, 1) by decide +kernel)) rfl
    (sb_cons (pc2 := 475) (sx_bipush (show decode cX12_init 473 = .ok (.bipush 27, 2) by decide +kernel) (by decide)) rfl
    (sb_cons (pc2 := 476) (sx_iconst (show decode cX12_init 475 = .ok (.iconst 0, 1) by decide +kernel) (by decide)) rfl
    (sb_cons (pc2 := 477) (sx_iast (show decode cX12_init 476 = .ok (.iastore, 1) by decide +kernel)) rfl
    (sb_cons (pc2 := 478) (sx_dup (show decode cX12_init 477 = .ok (.dup, 1) by decide +kernel)) rfl
    (sb_cons (pc2 := 480) (sx_bipush (show decode cX12_init 478 = .ok (.bipush 28, 2) by decide +kernel) (by decide)) rfl
    (sb_cons (pc2 := 482) (sx_bipush (show decode cX12_init 480 = .ok (.bipush 111, 2) by decide +kernel) (by decide)) rfl
    (sb_cons (pc2 := 483) (sx_iast (show decode cX12_init 482 = .ok (.iastore, 1) by decide +kernel)) rfl
    (sb_cons (pc2 := 484) (sx_dup (show decode cX12_init 483 = .ok (.dup, 1) by decide +kernel)) rfl
    (sb_cons (pc2 := 486) (sx_bipush (show decode cX12_init 484 = .ok (.bipush 29, 2) by decide +kernel) (by decide)) rfl
    (sb_cons (pc2 := 488) (sx_bipush (show decode cX12_init 486 = .ok (.bipush 114, 2) by decide +kernel) (by decide)) rfl
    (sb_cons (pc2 := 489) (sx_iast (show decode cX12_init 488 = .ok (.iastore, 1) by decide +kernel)) rfl
    (sb_cons (pc2 := 490) (sx_dup (show decode cX12_init 489 = .ok (.dup, 1) by decide +kernel)) rfl
    (sb_cons (pc2 := 492) (sx_bipush (show decode cX12_init 490 = .ok (.bipush 30, 2) by decide +kernel) (by decide)) rfl
    (sb_cons (pc2 := 493) (sx_iconst (show decode cX12_init 492 = .ok (.iconst 0, 1) by decide +kernel) (by decide)) rfl
    (sb_cons (pc2 := 494) (sx_iast (show decode cX12_init 493 = .ok (.iastore, 1) by decide +kernel)) rfl
    (sb_cons (pc2 := 495) (sx_dup (show decode cX12_init 494 = .ok (.dup, 1) by decide +kernel)) rfl
    (sb_cons (pc2 := 497) (sx_bipush (show decode cX12_init 495 = .ok (.bipush 31, 2) by decide +kernel) (by decide)) rfl
    (sb_cons (pc2 := 499) (sx_bipush (show decode cX12_init 497 = .ok (.bipush 97, 2) by decide +kernel) (by decide)) rfl
    (sb_cons (pc2 := 500) (sx_iast (show decode cX12_init 499 = .ok (.iastore, 1) by decide +kernel)) rfl
    (sb_cons (pc2 := 501) (sx_dup (show decode cX12_init 500 = .ok (.dup, 1) by decide +kernel)) rfl
    (sb_cons (pc2 := 503) (sx_bipush (show decode cX12_init 501 = .ok (.bipush 32, 2) by decide +kernel) (by decide)) rfl
    (sb_cons (pc2 := 505) (sx_bipush (show decode cX12_init 503 = .ok (.bipush 110, 2) by decide +kernel) (by decide)) rfl
    (sb_cons (pc2 := 506) (sx_iast (show decode cX12_init 505 = .ok (.iastore, 1) by decide +kernel)) rfl
    (sb_cons (pc2 := 507) (sx_dup (show decode cX12_init 506 = .ok (.dup, 1) by decide +kernel)) rfl
    (sb_cons (pc2 := 509) (sx_bipush (show decode cX12_init 507 = .ok (.bipush 33, 2) by decide +kernel) (by decide)) rfl
    (sb_cons (pc2 := 511) (sx_bipush (show decode cX12_init 509 = .ok (.bipush 100, 2) by decide +kernel) (by decide)) rfl
    (sb_cons (pc2 := 512) (sx_iast (show decode cX12_init 511 = .ok (.iastore, 1) by decide +kernel)) rfl
    (sb_cons (pc2 := 513) (sx_dup (show decode cX12_init 512 = .ok (.dup, 1) by decide +kernel)) rfl
    (sb_cons (pc2 := 515) (sx_bipush (show decode cX12_init 513 = .ok (.bipush 34, 2) by decide +kernel) (by decide)) rfl
    (sb_cons (pc2 := 516) (sx_iconst (show decode cX12_init 515 = .ok (.iconst 0, 1) by decide +kernel) (by decide)) rfl
    (sb_cons (pc2 := 517) (sx_iast (show decode cX12_init 516 = .ok (.iastore, 1) by decide +kernel)) rfl
    (sb_cons (pc2 := 518) (sx_dup (show decode cX12_init 517 = .ok (.dup, 1) by decide +kernel)) rfl
    (sb_cons (pc2 := 520) (sx_bipush (show decode cX12_init 518 = .ok (.bipush 35, 2) by decide +kernel) (by decide)) rfl
    (sb_cons (pc2 := 522) (sx_bipush (show decode cX12_init 520 = .ok (.bipush 110, 2) by decide +kernel) (by decide)) rfl
    (sb_cons (pc2 := 523) (sx_iast (show decode cX12_init 522 = .ok (.iastore, 1) by decide +kernel)) rfl
    (sb_cons (pc2 := 524) (sx_dup (show decode cX12_init 523 = .ok (.dup, 1) by decide +kernel)) rfl
    (sb_cons (pc2 := 526) (sx_bipush (show decode cX12_init 524 = .ok (.bipush 36, 2) by decide +kernel) (by decide)) rfl
    (sb_cons (pc2 := 528) (sx_bipush (show decode cX12_init 526 = .ok (.bipush 111, 2) by decide +kernel) (by decide)) rfl
    (sb_cons (pc2 := 529) (sx_iast (show decode cX12_init 528 = .ok (.iastore, 1) by decide +kernel)) rfl
    (sb_cons (pc2 := 530) (sx_dup (show decode cX12_init 529 = .ok (.dup, 1) by decide +kernel)) rfl
    (sb_cons (pc2 := 532) (sx_bipush (show decode cX12_init 530 = .ok (.bipush 37, 2) by decide +kernel) (by decide)) rfl
    (sb_cons (pc2 := 534) (sx_bipush (show decode cX12_init 532 = .ok (.bipush 116, 2) by decide +kernel) (by decide)) rfl
    (sb_cons (pc2 := 535) (sx_iast (show decode cX12_init 534 = .ok (.iastore, 1) by decide +kernel)) rfl
    (sb_cons (pc2 := 536) (sx_dup (show decode cX12_init 535 = .ok (.dup, 1) by decide +kernel)) rfl
    (sb_cons (pc2 := 538) (sx_bipush (show decode cX12_init 536 = .ok (.bipush 38, 2) by decide +kernel) (by decide)) rfl
    (sb_cons (pc2 := 539) (sx_iconst (show decode cX12_init 538 = .ok (.iconst 0, 1) by decide +kernel) (by decide)) rfl
    (sb_cons (pc2 := 540) (sx_iast (show decode cX12_init 539 = .ok (.iastore, 1) by decide +kernel)) rfl
    (sb_cons (pc2 := 543) (sx_putr (show decode cX12_init 540 = .ok (.putfield 129, 3) by decide +kernel) rfl iX12 tyX12_ok nmX12 (by decide) wd_710 (Or.inr ⟨_, rfl⟩) (Or.inr ⟨rfl, rfl, rfl⟩)) rfl
    (sb_cons (pc2 := 544) (sx_aload_n (show decode cX12_init 543 = .ok (.aload_n 0, 1) by decide +kernel) rfl) rfl
    (sb_cons (pc2 := 547) (sx_sipush (show decode cX12_init 544 = .ok (.sipush 180, 3) by decide +kernel) (by decide)) rfl
    (sb_cons (pc2 := 549) (sx_newi (t := 0) (show decode cX12_init 547 = .ok (.newarray .int, 2) by decide +kernel) rfl (fun _ => rfl) (Or.inl rfl) wd_17) rfl
    (sb_cons (pc2 := 552) (sx_putr (show decode cX12_init 549 = .ok (.putfield 132, 3) by decide +kernel) rfl iX12 tyX12_ok nmX12 (by decide) wd_711 (Or.inr ⟨_, rfl⟩) (Or.inr ⟨rfl, rfl, rfl⟩)) rfl
    (sb_cons (pc2 := 553) (sx_aload_n (show decode cX12_init 552 = .ok (.aload_n 0, 1) by decide +kernel) rfl) rfl
    (sb_cons (pc2 := 555) (sx_bipush (show decode cX12_init 553 = .ok (.bipush 9, 2) by decide +kernel) (by decide)) rfl
    (sb_cons (pc2 := 557) (sx_newi (t := 0) (show decode cX12_init 555 = .ok (.newarray .int, 2) by decide +kernel) rfl (fun _ => rfl) (Or.inl rfl) wd_17) rfl
    (sb_cons (pc2 := 560) (sx_putr (show decode cX12_init 557 = .ok (.putfield 135, 3) by decide +kernel) rfl iX12 tyX12_ok nmX12 (by decide) wd_712 (Or.inr ⟨_, rfl⟩) (Or.inr ⟨rfl, rfl, rfl⟩)) rfl
    (sb_cons (pc2 := 561) (sx_aload_n (show decode cX12_init 560 = .ok (.aload_n 0, 1) by decide +kernel) rfl) rfl
    (sb_cons (pc2 := 563) (sx_bipush (show decode cX12_init 561 = .ok (.bipush 9, 2) by decide +kernel) (by decide)) rfl
    (sb_cons (pc2 := 565) (sx_newi (t := 0) (show decode cX12_init 563 = .ok (.newarray .int, 2) by decide +kernel) rfl (fun _ => rfl) (Or.inl rfl) wd_17) rfl
    (sb_cons (pc2 := 568) (sx_putr (show decode cX12_init 565 = .ok (.putfield 138, 3) by decide +kernel) rfl iX12 tyX12_ok nmX12 (by decide) wd_713 (Or.inr ⟨_, rfl⟩) (Or.inr ⟨rfl, rfl, rfl⟩)) rfl
    (sb_cons (pc2 := 569) (sx_aload_n (show decode cX12_init 568 = .ok (.aload_n 0, 1) by decide +kernel) rfl) rfl
    (sb_cons (pc2 := 570) (sx_iconst (show decode cX12_init 569 = .ok (.iconst 4, 1) by decide +kernel) (by decide)) rfl
    (sb_cons (pc2 := 572) (sx_newi (t := 0) (show decode cX12_init 570 = .ok (.newarray .int, 2) by decide +kernel) rfl (fun _ => rfl) (Or.inl rfl) wd_17) rfl
    (sb_cons (pc2 := 575) (sx_putr (show decode cX12_init 572 = .ok (.putfield 141, 3) by decide +kernel) rfl iX12 tyX12_ok nmX12 (by decide) wd_714 (Or.inr ⟨_, rfl⟩) (Or.inr ⟨rfl, rfl, rfl⟩)) rfl
    (sb_cons (pc2 := 576) (sx_iconst (show decode cX12_init 575 = .ok (.iconst 0, 1) by decide +kernel) (by decide)) rfl
    (sb_cons (pc2 := 577) (sx_istore_n (show decode cX12_init 576 = .ok (.istore_n 1, 1) by decide +kernel) rfl) rfl sb_nil)))))))))))))))))))))))))))))))))))))))))))))))))))))))))))))))))))))))))))))))))))))))))))))))))))))))))))))))))))))))))))))))))))))))))))))))))))))))))))))))))))))))))))))))))))))))))))))))))))))))))))))))))))))))))))))))))))))))))))))))))))))))))))))))))))))))))))))))))))))))))))))))))))))))))))))))))))))))))))))))))))))))))))))))
  (ms_cons
  (sb_cons (pc2 := 578) (sx_iload_n (show decode cX12_init 577 = .ok (.iload_n 1, 1) by decide +kernel) rfl) rfl
    (sb_cons (pc2 := 579) (sx_iconst (show decode cX12_init 578 = .ok (.iconst 4, 1) by decide +kernel) (by decide)) rfl
    (sb_cons (pc2 := 582) (sx_icmp_ge (show decode cX12_init 579 = .ok (.if_icmp .ge 16, 3) by decide +kernel) (by decide)) rfl
    (sb_cons (pc2 := 583) (sx_aload_n (show decode cX12_init 582 = .ok (.aload_n 0, 1) by decide +kernel) rfl) rfl
    (sb_cons (pc2 := 586) (sx_getf (show decode cX12_init 583 = .ok (.getfield 117, 3) by decide +kernel) rfl iX12 (by decide) wd_706) rfl
    (sb_cons (pc2 := 587) (sx_iload_n (show decode cX12_init 586 = .ok (.iload_n 1, 1) by decide +kernel) rfl) rfl
    (sb_cons (pc2 := 588) (sx_iconst (show decode cX12_init 587 = .ok (.iconst (-1), 1) by decide +kernel) (by decide)) rfl
    (sb_cons (pc2 := 589) (sx_iast (show decode cX12_init 588 = .ok (.iastore, 1) by decide +kernel)) rfl
    (sb_cons (pc2 := 592) (sx_iinc (show decode cX12_init 589 = .ok (.iinc 1 1, 3) by decide +kernel) (by decide)) rfl
    (sb_cons (pc2 := 595) (px_snd_goto (show decode cX12_init 592 = .ok (.goto (-15), 3) by decide +kernel) (by decide)) rfl sb_nil))))))))))
  (ms_cons
  (sb_cons (pc2 := 596) (sx_retv (show decode cX12_init 595 = .ok (.return_, 1) by decide +kernel) rfl) rfl sb_nil)
  ms_nil)))
def kX12_in (X : px_X) : px_B := [(0, [], [px_iload 0, px_iload 1, px_if2 (fun x y => decide (x < y)) 14, px_iload 0, px_iload 2, px_if2 (fun x y => decide (y < x)) 14, px_push (.int 1), px_goto 15], 14),
  (14, [false, false, false], [px_push (.int 0)], 15),
  (15, [false, false, false], [px_retz], 16)]
set_option maxRecDepth 100000 in
set_option maxHeartbeats 8000000 in
theorem sX12_in (d : Nat) (X : px_X) : px_MS d X YX12_in (kX12_in X) :=
  (ms_cons
  (sb_cons (pc2 := 1) (sx_iload_n (show decode cX12_in 0 = .ok (.iload_n 0, 1) by decide +kernel) rfl) rfl
    (sb_cons (pc2 := 2) (sx_iload_n (show decode cX12_in 1 = .ok (.iload_n 1, 1) by decide +kernel) rfl) rfl
    (sb_cons (pc2 := 5) (sx_icmp_lt (show decode cX12_in 2 = .ok (.if_icmp .lt 12, 3) by decide +kernel) (by decide)) rfl
    (sb_cons (pc2 := 6) (sx_iload_n (show decode cX12_in 5 = .ok (.iload_n 0, 1) by decide +kernel) rfl) rfl
    (sb_cons (pc2 := 7) (sx_iload_n (show decode cX12_in 6 = .ok (.iload_n 2, 1) by decide +kernel) rfl) rfl
    (sb_cons (pc2 := 10) (sx_icmp_gt (show decode cX12_in 7 = .ok (.if_icmp .gt 7, 3) by decide +kernel) (by decide)) rfl
    (sb_cons (pc2 := 11) (sx_iconst (show decode cX12_in 10 = .ok (.iconst 1, 1) by decide +kernel) (by decide)) rfl
    (sb_cons (pc2 := 14) (px_snd_goto (show decode cX12_in 11 = .ok (.goto 4, 3) by decide +kernel) (by decide)) rfl sb_nil))))))))
  (ms_cons
  (sb_cons (pc2 := 15) (sx_iconst (show decode cX12_in 14 = .ok (.iconst 0, 1) by decide +kernel) (by decide)) rfl sb_nil)
  (ms_cons
  (sb_cons (pc2 := 16) (sx_retz (show decode cX12_in 15 = .ok (.ireturn, 1) by decide +kernel) rfl) rfl sb_nil)
  ms_nil)))
def kX12_isMark (X : px_X) : px_B := [(0, [], [px_iload 1, px_push (.int 0), px_aload 0, px_getf 12 0, px_push (.int 1), (px_i2 fun x y => x - y), px_cS X 165 3, px_retz], 12)]
set_option maxRecDepth 100000 in
set_option maxHeartbeats 8000000 in
theorem sX12_isMark (d : Nat) (X : px_X) : px_MS d X YX12_isMark (kX12_isMark X) :=
  (ms_cons
  (sb_cons (pc2 := 1) (sx_iload_n (show decode cX12_isMark 0 = .ok (.iload_n 1, 1) by decide +kernel) rfl) rfl
    (sb_cons (pc2 := 2) (sx_iconst (show decode cX12_isMark 1 = .ok (.iconst 0, 1) by decide +kernel) (by decide)) rfl
    (sb_cons (pc2 := 3) (sx_aload_n (show decode cX12_isMark 2 = .ok (.aload_n 0, 1) by decide +kernel) rfl) rfl
    (sb_cons (pc2 := 6) (sx_getf (show decode cX12_isMark 3 = .ok (.getfield 144, 3) by decide +kernel) rfl iX12 (by decide) wd_715) rfl
    (sb_cons (pc2 := 7) (sx_iconst (show decode cX12_isMark 6 = .ok (.iconst 1, 1) by decide +kernel) (by decide)) rfl
    (sb_cons (pc2 := 8) (sx_isub (show decode cX12_isMark 7 = .ok (.isub, 1) by decide +kernel)) rfl
    (sb_cons (pc2 := 11) (sx_cS (Y' := YX12_in) rfl (show decode cX12_isMark 8 = .ok (.invokestatic 147, 3) by decide +kernel) rfl (px_w3 wd_717 wd_718 wd_719) wd_716 ⟨by decide, by decide, by decide +kernel⟩ (by decide)) rfl
    (sb_cons (pc2 := 12) (sx_retz (show decode cX12_isMark 11 = .ok (.ireturn, 1) by decide +kernel) rfl) rfl sb_nil))))))))
  ms_nil)
def kX12_isFind (X : px_X) : px_B := [(0, [], [px_iload 1, px_push (.int 0), px_aload 0, px_getf 12 13, px_push (.int 1), (px_i2 fun x y => x - y), px_cS X 165 3, px_retz], 12)]
set_option maxRecDepth 100000 in
set_option maxHeartbeats 8000000 in
theorem sX12_isFind (d : Nat) (X : px_X) : px_MS d X YX12_isFind (kX12_isFind X) :=
  (ms_cons
  (sb_cons (pc2 := 1) (sx_iload_n (show decode cX12_isFind 0 = .ok (.iload_n 1, 1) by decide +kernel) rfl) rfl
    (sb_cons (pc2 := 2) (sx_iconst (show decode cX12_isFind 1 = .ok (.iconst 0, 1) by decide +kernel) (by decide)) rfl
    (sb_cons (pc2 := 3) (sx_aload_n (show decode cX12_isFind 2 = .ok (.aload_n 0, 1) by decide +kernel) rfl) rfl
    (sb_cons (pc2 := 6) (sx_getf (show decode cX12_isFind 3 = .ok (.getfield 151, 3) by decide +kernel) rfl iX12 (by decide) wd_720) rfl
    (sb_cons (pc2 := 7) (sx_iconst (show decode cX12_isFind 6 = .ok (.iconst 1, 1) by decide +kernel) (by decide)) rfl
    (sb_cons (pc2 := 8) (sx_isub (show decode cX12_isFind 7 = .ok (.isub, 1) by decide +kernel)) rfl
    (sb_cons (pc2 := 11) (sx_cS (Y' := YX12_in) rfl (show decode cX12_isFind 8 = .ok (.invokestatic 147, 3) by decide +kernel) rfl (px_w3 wd_717 wd_718 wd_719) wd_716 ⟨by decide, by decide, by decide +kernel⟩ (by decide)) rfl
    (sb_cons (pc2 := 12) (sx_retz (show decode cX12_isFind 11 = .ok (.ireturn, 1) by decide +kernel) rfl) rfl sb_nil))))))))
  ms_nil)
def kX12_isDay (X : px_X) : px_B := [(0, [], [px_iload 0, px_push (.int 0), px_push (.int 999), px_cS X 165 3, px_retz], 9)]
set_option maxRecDepth 100000 in
set_option maxHeartbeats 8000000 in
theorem sX12_isDay (d : Nat) (X : px_X) : px_MS d X YX12_isDay (kX12_isDay X) :=
  (ms_cons
  (sb_cons (pc2 := 1) (sx_iload_n (show decode cX12_isDay 0 = .ok (.iload_n 0, 1) by decide +kernel) rfl) rfl
    (sb_cons (pc2 := 2) (sx_iconst (show decode cX12_isDay 1 = .ok (.iconst 0, 1) by decide +kernel) (by decide)) rfl
    (sb_cons (pc2 := 5) (sx_sipush (show decode cX12_isDay 2 = .ok (.sipush 999, 3) by decide +kernel) (by decide)) rfl
    (sb_cons (pc2 := 8) (sx_cS (Y' := YX12_in) rfl (show decode cX12_isDay 5 = .ok (.invokestatic 147, 3) by decide +kernel) rfl (px_w3 wd_717 wd_718 wd_719) wd_716 ⟨by decide, by decide, by decide +kernel⟩ (by decide)) rfl
    (sb_cons (pc2 := 9) (sx_retz (show decode cX12_isDay 8 = .ok (.ireturn, 1) by decide +kernel) rfl) rfl sb_nil)))))
  ms_nil)
def kX12_mark (X : px_X) : px_B := [(0, [], [px_iload 1, px_push (.int (-5000)), px_push (.int 5000), px_cS X 165 3, px_if1 (fun x => decide (x = 0)) 26, px_iload 2, px_push (.int (-5000)), px_push (.int 5000), px_cS X 165 3, px_if1 (fun x => decide (¬ x = 0)) 29], 26),
  (26, [false, false, false, false], [px_push (.int (-2)), px_reti], 29),
  (29, [true, true, true, true], [px_aload 0, px_getf 12 0, px_push (.int 8), px_if2 (fun x y => decide (¬ x = y)) 41, px_push (.int (-4)), px_reti], 41),
  (41, [true, true, true, true], [px_aload 0, px_getf 12 1, px_aload 0, px_getf 12 0, px_iload 1, px_iast 0, px_aload 0, px_getf 12 2, px_aload 0, px_getf 12 0, px_iload 2, px_iast 0, px_aload 0, px_getf 12 5, px_aload 0, px_getf 12 0, px_iload 3, px_zast, px_aload 0, px_dup, px_getf 12 0, px_push (.int 1), (px_i2 fun x y => x + y), px_puti 12 0, px_aload 0, px_push (.int 0), px_putz 12 11, px_aload 0, px_getf 12 0, px_push (.int 1), (px_i2 fun x y => x - y), px_reti], 93)]
set_option maxRecDepth 100000 in
set_option maxHeartbeats 8000000 in
theorem sX12_mark (d : Nat) (X : px_X) : px_MS d X YX12_mark (kX12_mark X) :=
  (ms_cons
  (sb_cons (pc2 := 1) (sx_iload_n (show decode cX12_mark 0 = .ok (.iload_n 1, 1) by decide +kernel) rfl) rfl
    (sb_cons (pc2 := 4) (sx_sipush (show decode cX12_mark 1 = .ok (.sipush (-5000), 3) by decide +kernel) (by decide)) rfl
    (sb_cons (pc2 := 7) (sx_sipush (show decode cX12_mark 4 = .ok (.sipush 5000, 3) by decide +kernel) (by decide)) rfl
    (sb_cons (pc2 := 10) (sx_cS (Y' := YX12_in) rfl (show decode cX12_mark 7 = .ok (.invokestatic 147, 3) by decide +kernel) rfl (px_w3 wd_717 wd_718 wd_719) wd_716 ⟨by decide, by decide, by decide +kernel⟩ (by decide)) rfl
    (sb_cons (pc2 := 13) (sx_if_eq (show decode cX12_mark 10 = .ok (.ifCond .eq 16, 3) by decide +kernel) (by decide)) rfl
    (sb_cons (pc2 := 14) (sx_iload_n (show decode cX12_mark 13 = .ok (.iload_n 2, 1) by decide +kernel) rfl) rfl
    (sb_cons (pc2 := 17) (sx_sipush (show decode cX12_mark 14 = .ok (.sipush (-5000), 3) by decide +kernel) (by decide)) rfl
    (sb_cons (pc2 := 20) (sx_sipush (show decode cX12_mark 17 = .ok (.sipush 5000, 3) by decide +kernel) (by decide)) rfl
    (sb_cons (pc2 := 23) (sx_cS (Y' := YX12_in) rfl (show decode cX12_mark 20 = .ok (.invokestatic 147, 3) by decide +kernel) rfl (px_w3 wd_717 wd_718 wd_719) wd_716 ⟨by decide, by decide, by decide +kernel⟩ (by decide)) rfl
    (sb_cons (pc2 := 26) (sx_if_ne (show decode cX12_mark 23 = .ok (.ifCond .ne 6, 3) by decide +kernel) (by decide)) rfl sb_nil))))))))))
  (ms_cons
  (sb_cons (pc2 := 28) (sx_bipush (show decode cX12_mark 26 = .ok (.bipush (-2), 2) by decide +kernel) (by decide)) rfl
    (sb_cons (pc2 := 29) (sx_reti (show decode cX12_mark 28 = .ok (.ireturn, 1) by decide +kernel) rfl) rfl sb_nil))
  (ms_cons
  (sb_cons (pc2 := 30) (sx_aload_n (show decode cX12_mark 29 = .ok (.aload_n 0, 1) by decide +kernel) rfl) rfl
    (sb_cons (pc2 := 33) (sx_getf (show decode cX12_mark 30 = .ok (.getfield 144, 3) by decide +kernel) rfl iX12 (by decide) wd_715) rfl
    (sb_cons (pc2 := 35) (sx_bipush (show decode cX12_mark 33 = .ok (.bipush 8, 2) by decide +kernel) (by decide)) rfl
    (sb_cons (pc2 := 38) (sx_icmp_ne (show decode cX12_mark 35 = .ok (.if_icmp .ne 6, 3) by decide +kernel) (by decide)) rfl
    (sb_cons (pc2 := 40) (sx_bipush (show decode cX12_mark 38 = .ok (.bipush (-4), 2) by decide +kernel) (by decide)) rfl
    (sb_cons (pc2 := 41) (sx_reti (show decode cX12_mark 40 = .ok (.ireturn, 1) by decide +kernel) rfl) rfl sb_nil))))))
  (ms_cons
  (sb_cons (pc2 := 42) (sx_aload_n (show decode cX12_mark 41 = .ok (.aload_n 0, 1) by decide +kernel) rfl) rfl
    (sb_cons (pc2 := 45) (sx_getf (show decode cX12_mark 42 = .ok (.getfield 7, 3) by decide +kernel) rfl iX12 (by decide) wd_671) rfl
    (sb_cons (pc2 := 46) (sx_aload_n (show decode cX12_mark 45 = .ok (.aload_n 0, 1) by decide +kernel) rfl) rfl
    (sb_cons (pc2 := 49) (sx_getf (show decode cX12_mark 46 = .ok (.getfield 144, 3) by decide +kernel) rfl iX12 (by decide) wd_715) rfl
    (sb_cons (pc2 := 50) (sx_iload_n (show decode cX12_mark 49 = .ok (.iload_n 1, 1) by decide +kernel) rfl) rfl
    (sb_cons (pc2 := 51) (sx_iast (show decode cX12_mark 50 = .ok (.iastore, 1) by decide +kernel)) rfl
    (sb_cons (pc2 := 52) (sx_aload_n (show decode cX12_mark 51 = .ok (.aload_n 0, 1) by decide +kernel) rfl) rfl
    (sb_cons (pc2 := 55) (sx_getf (show decode cX12_mark 52 = .ok (.getfield 13, 3) by decide +kernel) rfl iX12 (by decide) wd_672) rfl
    (sb_cons (pc2 := 56) (sx_aload_n (show decode cX12_mark 55 = .ok (.aload_n 0, 1) by decide +kernel) rfl) rfl
    (sb_cons (pc2 := 59) (sx_getf (show decode cX12_mark 56 = .ok (.getfield 144, 3) by decide +kernel) rfl iX12 (by decide) wd_715) rfl
    (sb_cons (pc2 := 60) (sx_iload_n (show decode cX12_mark 59 = .ok (.iload_n 2, 1) by decide +kernel) rfl) rfl
    (sb_cons (pc2 := 61) (sx_iast (show decode cX12_mark 60 = .ok (.iastore, 1) by decide +kernel)) rfl
    (sb_cons (pc2 := 62) (sx_aload_n (show decode cX12_mark 61 = .ok (.aload_n 0, 1) by decide +kernel) rfl) rfl
    (sb_cons (pc2 := 65) (sx_getf (show decode cX12_mark 62 = .ok (.getfield 22, 3) by decide +kernel) rfl iX12 (by decide) wd_675) rfl
    (sb_cons (pc2 := 66) (sx_aload_n (show decode cX12_mark 65 = .ok (.aload_n 0, 1) by decide +kernel) rfl) rfl
    (sb_cons (pc2 := 69) (sx_getf (show decode cX12_mark 66 = .ok (.getfield 144, 3) by decide +kernel) rfl iX12 (by decide) wd_715) rfl
    (sb_cons (pc2 := 70) (sx_iload_n (show decode cX12_mark 69 = .ok (.iload_n 3, 1) by decide +kernel) rfl) rfl
    (sb_cons (pc2 := 71) (sx_zast (show decode cX12_mark 70 = .ok (.bastore, 1) by decide +kernel)) rfl
    (sb_cons (pc2 := 72) (sx_aload_n (show decode cX12_mark 71 = .ok (.aload_n 0, 1) by decide +kernel) rfl) rfl
    (sb_cons (pc2 := 73) (sx_dup (show decode cX12_mark 72 = .ok (.dup, 1) by decide +kernel)) rfl
    (sb_cons (pc2 := 76) (sx_getf (show decode cX12_mark 73 = .ok (.getfield 144, 3) by decide +kernel) rfl iX12 (by decide) wd_715) rfl
    (sb_cons (pc2 := 77) (sx_iconst (show decode cX12_mark 76 = .ok (.iconst 1, 1) by decide +kernel) (by decide)) rfl
    (sb_cons (pc2 := 78) (sx_iadd (show decode cX12_mark 77 = .ok (.iadd, 1) by decide +kernel)) rfl
    (sb_cons (pc2 := 81) (sx_puti (show decode cX12_mark 78 = .ok (.putfield 144, 3) by decide +kernel) rfl iX12 tyX12_ok nmX12 (by decide) wd_715 rfl (Or.inl rfl)) rfl
    (sb_cons (pc2 := 82) (sx_aload_n (show decode cX12_mark 81 = .ok (.aload_n 0, 1) by decide +kernel) rfl) rfl
    (sb_cons (pc2 := 83) (sx_iconst (show decode cX12_mark 82 = .ok (.iconst 0, 1) by decide +kernel) (by decide)) rfl
    (sb_cons (pc2 := 86) (sx_putz (show decode cX12_mark 83 = .ok (.putfield 154, 3) by decide +kernel) rfl iX12 tyX12_ok nmX12 (by decide) wd_721 rfl rfl) rfl
    (sb_cons (pc2 := 87) (sx_aload_n (show decode cX12_mark 86 = .ok (.aload_n 0, 1) by decide +kernel) rfl) rfl
    (sb_cons (pc2 := 90) (sx_getf (show decode cX12_mark 87 = .ok (.getfield 144, 3) by decide +kernel) rfl iX12 (by decide) wd_715) rfl
    (sb_cons (pc2 := 91) (sx_iconst (show decode cX12_mark 90 = .ok (.iconst 1, 1) by decide +kernel) (by decide)) rfl
    (sb_cons (pc2 := 92) (sx_isub (show decode cX12_mark 91 = .ok (.isub, 1) by decide +kernel)) rfl
    (sb_cons (pc2 := 93) (sx_reti (show decode cX12_mark 92 = .ok (.ireturn, 1) by decide +kernel) rfl) rfl sb_nil))))))))))))))))))))))))))))))))
  ms_nil))))
def kX12_tape (X : px_X) : px_B := [(0, [], [px_aload 0, px_iload 1, px_cV X 166 2 12, px_if1 (fun x => decide (x = 0)) 32, px_aload 0, px_iload 2, px_cV X 166 2 12, px_if1 (fun x => decide (x = 0)) 32, px_iload 1, px_iload 2, px_if2 (fun x y => decide (x = y)) 32, px_iload 3, px_push (.int 1), px_push (.int 15000), px_cS X 165 3, px_if1 (fun x => decide (¬ x = 0)) 35], 32),
  (32, [false, false, false, false], [px_push (.int (-2)), px_reti], 35),
  (35, [true, true, true, true], [px_aload 0, px_getf 12 6, px_push (.int 24), px_if2 (fun x y => decide (¬ x = y)) 47, px_push (.int (-4)), px_reti], 47),
  (47, [true, true, true, true], [px_aload 0, px_getf 12 7, px_aload 0, px_getf 12 6, px_iload 1, px_iast 0, px_aload 0, px_getf 12 8, px_aload 0, px_getf 12 6, px_iload 2, px_iast 0, px_aload 0, px_getf 12 9, px_aload 0, px_getf 12 6, px_iload 3, px_iast 0, px_aload 0, px_dup, px_getf 12 6, px_push (.int 1), (px_i2 fun x y => x + y), px_puti 12 6, px_aload 0, px_push (.int 0), px_putz 12 11, px_aload 0, px_getf 12 6, px_push (.int 1), (px_i2 fun x y => x - y), px_reti], 99)]
set_option maxRecDepth 100000 in
set_option maxHeartbeats 8000000 in
theorem sX12_tape (d : Nat) (X : px_X) : px_MS d X YX12_tape (kX12_tape X) :=
  (ms_cons
  (sb_cons (pc2 := 1) (sx_aload_n (show decode cX12_tape 0 = .ok (.aload_n 0, 1) by decide +kernel) rfl) rfl
    (sb_cons (pc2 := 2) (sx_iload_n (show decode cX12_tape 1 = .ok (.iload_n 1, 1) by decide +kernel) rfl) rfl
    (sb_cons (pc2 := 5) (sx_cV (Y' := YX12_isMark) (q := (RX12, TX12, 69)) rfl (show decode cX12_tape 2 = .ok (.invokevirtual 158, 3) by decide +kernel) rfl rfl (px_w4 wd_723 wd_724 wd_725 wd_719) wd_722 ⟨by decide, by decide, by decide +kernel⟩ (by decide)) rfl
    (sb_cons (pc2 := 8) (sx_if_eq (show decode cX12_tape 5 = .ok (.ifCond .eq 27, 3) by decide +kernel) (by decide)) rfl
    (sb_cons (pc2 := 9) (sx_aload_n (show decode cX12_tape 8 = .ok (.aload_n 0, 1) by decide +kernel) rfl) rfl
    (sb_cons (pc2 := 10) (sx_iload_n (show decode cX12_tape 9 = .ok (.iload_n 2, 1) by decide +kernel) rfl) rfl
    (sb_cons (pc2 := 13) (sx_cV (Y' := YX12_isMark) (q := (RX12, TX12, 69)) rfl (show decode cX12_tape 10 = .ok (.invokevirtual 158, 3) by decide +kernel) rfl rfl (px_w4 wd_723 wd_724 wd_725 wd_719) wd_722 ⟨by decide, by decide, by decide +kernel⟩ (by decide)) rfl
    (sb_cons (pc2 := 16) (sx_if_eq (show decode cX12_tape 13 = .ok (.ifCond .eq 19, 3) by decide +kernel) (by decide)) rfl
    (sb_cons (pc2 := 17) (sx_iload_n (show decode cX12_tape 16 = .ok (.iload_n 1, 1) by decide +kernel) rfl) rfl
    (sb_cons (pc2 := 18) (sx_iload_n (show decode cX12_tape 17 = .ok (.iload_n 2, 1) by decide +kernel) rfl) rfl
    (sb_cons (pc2 := 21) (sx_icmp_eq (show decode cX12_tape 18 = .ok (.if_icmp .eq 14, 3) by decide +kernel) (by decide)) rfl
    (sb_cons (pc2 := 22) (sx_iload_n (show decode cX12_tape 21 = .ok (.iload_n 3, 1) by decide +kernel) rfl) rfl
    (sb_cons (pc2 := 23) (sx_iconst (show decode cX12_tape 22 = .ok (.iconst 1, 1) by decide +kernel) (by decide)) rfl
    (sb_cons (pc2 := 26) (sx_sipush (show decode cX12_tape 23 = .ok (.sipush 15000, 3) by decide +kernel) (by decide)) rfl
    (sb_cons (pc2 := 29) (sx_cS (Y' := YX12_in) rfl (show decode cX12_tape 26 = .ok (.invokestatic 147, 3) by decide +kernel) rfl (px_w3 wd_717 wd_718 wd_719) wd_716 ⟨by decide, by decide, by decide +kernel⟩ (by decide)) rfl
    (sb_cons (pc2 := 32) (sx_if_ne (show decode cX12_tape 29 = .ok (.ifCond .ne 6, 3) by decide +kernel) (by decide)) rfl sb_nil))))))))))))))))
  (ms_cons
  (sb_cons (pc2 := 34) (sx_bipush (show decode cX12_tape 32 = .ok (.bipush (-2), 2) by decide +kernel) (by decide)) rfl
    (sb_cons (pc2 := 35) (sx_reti (show decode cX12_tape 34 = .ok (.ireturn, 1) by decide +kernel) rfl) rfl sb_nil))
  (ms_cons
  (sb_cons (pc2 := 36) (sx_aload_n (show decode cX12_tape 35 = .ok (.aload_n 0, 1) by decide +kernel) rfl) rfl
    (sb_cons (pc2 := 39) (sx_getf (show decode cX12_tape 36 = .ok (.getfield 162, 3) by decide +kernel) rfl iX12 (by decide) wd_726) rfl
    (sb_cons (pc2 := 41) (sx_bipush (show decode cX12_tape 39 = .ok (.bipush 24, 2) by decide +kernel) (by decide)) rfl
    (sb_cons (pc2 := 44) (sx_icmp_ne (show decode cX12_tape 41 = .ok (.if_icmp .ne 6, 3) by decide +kernel) (by decide)) rfl
    (sb_cons (pc2 := 46) (sx_bipush (show decode cX12_tape 44 = .ok (.bipush (-4), 2) by decide +kernel) (by decide)) rfl
    (sb_cons (pc2 := 47) (sx_reti (show decode cX12_tape 46 = .ok (.ireturn, 1) by decide +kernel) rfl) rfl sb_nil))))))
  (ms_cons
  (sb_cons (pc2 := 48) (sx_aload_n (show decode cX12_tape 47 = .ok (.aload_n 0, 1) by decide +kernel) rfl) rfl
    (sb_cons (pc2 := 51) (sx_getf (show decode cX12_tape 48 = .ok (.getfield 26, 3) by decide +kernel) rfl iX12 (by decide) wd_676) rfl
    (sb_cons (pc2 := 52) (sx_aload_n (show decode cX12_tape 51 = .ok (.aload_n 0, 1) by decide +kernel) rfl) rfl
    (sb_cons (pc2 := 55) (sx_getf (show decode cX12_tape 52 = .ok (.getfield 162, 3) by decide +kernel) rfl iX12 (by decide) wd_726) rfl
    (sb_cons (pc2 := 56) (sx_iload_n (show decode cX12_tape 55 = .ok (.iload_n 1, 1) by decide +kernel) rfl) rfl
    (sb_cons (pc2 := 57) (sx_iast (show decode cX12_tape 56 = .ok (.iastore, 1) by decide +kernel)) rfl
    (sb_cons (pc2 := 58) (sx_aload_n (show decode cX12_tape 57 = .ok (.aload_n 0, 1) by decide +kernel) rfl) rfl
    (sb_cons (pc2 := 61) (sx_getf (show decode cX12_tape 58 = .ok (.getfield 29, 3) by decide +kernel) rfl iX12 (by decide) wd_677) rfl
    (sb_cons (pc2 := 62) (sx_aload_n (show decode cX12_tape 61 = .ok (.aload_n 0, 1) by decide +kernel) rfl) rfl
    (sb_cons (pc2 := 65) (sx_getf (show decode cX12_tape 62 = .ok (.getfield 162, 3) by decide +kernel) rfl iX12 (by decide) wd_726) rfl
    (sb_cons (pc2 := 66) (sx_iload_n (show decode cX12_tape 65 = .ok (.iload_n 2, 1) by decide +kernel) rfl) rfl
    (sb_cons (pc2 := 67) (sx_iast (show decode cX12_tape 66 = .ok (.iastore, 1) by decide +kernel)) rfl
    (sb_cons (pc2 := 68) (sx_aload_n (show decode cX12_tape 67 = .ok (.aload_n 0, 1) by decide +kernel) rfl) rfl
    (sb_cons (pc2 := 71) (sx_getf (show decode cX12_tape 68 = .ok (.getfield 32, 3) by decide +kernel) rfl iX12 (by decide) wd_678) rfl
    (sb_cons (pc2 := 72) (sx_aload_n (show decode cX12_tape 71 = .ok (.aload_n 0, 1) by decide +kernel) rfl) rfl
    (sb_cons (pc2 := 75) (sx_getf (show decode cX12_tape 72 = .ok (.getfield 162, 3) by decide +kernel) rfl iX12 (by decide) wd_726) rfl
    (sb_cons (pc2 := 76) (sx_iload_n (show decode cX12_tape 75 = .ok (.iload_n 3, 1) by decide +kernel) rfl) rfl
    (sb_cons (pc2 := 77) (sx_iast (show decode cX12_tape 76 = .ok (.iastore, 1) by decide +kernel)) rfl
    (sb_cons (pc2 := 78) (sx_aload_n (show decode cX12_tape 77 = .ok (.aload_n 0, 1) by decide +kernel) rfl) rfl
    (sb_cons (pc2 := 79) (sx_dup (show decode cX12_tape 78 = .ok (.dup, 1) by decide +kernel)) rfl
    (sb_cons (pc2 := 82) (sx_getf (show decode cX12_tape 79 = .ok (.getfield 162, 3) by decide +kernel) rfl iX12 (by decide) wd_726) rfl
    (sb_cons (pc2 := 83) (sx_iconst (show decode cX12_tape 82 = .ok (.iconst 1, 1) by decide +kernel) (by decide)) rfl
    (sb_cons (pc2 := 84) (sx_iadd (show decode cX12_tape 83 = .ok (.iadd, 1) by decide +kernel)) rfl
    (sb_cons (pc2 := 87) (sx_puti (show decode cX12_tape 84 = .ok (.putfield 162, 3) by decide +kernel) rfl iX12 tyX12_ok nmX12 (by decide) wd_726 rfl (Or.inl rfl)) rfl
    (sb_cons (pc2 := 88) (sx_aload_n (show decode cX12_tape 87 = .ok (.aload_n 0, 1) by decide +kernel) rfl) rfl
    (sb_cons (pc2 := 89) (sx_iconst (show decode cX12_tape 88 = .ok (.iconst 0, 1) by decide +kernel) (by decide)) rfl
    (sb_cons (pc2 := 92) (sx_putz (show decode cX12_tape 89 = .ok (.putfield 154, 3) by decide +kernel) rfl iX12 tyX12_ok nmX12 (by decide) wd_721 rfl rfl) rfl
    (sb_cons (pc2 := 93) (sx_aload_n (show decode cX12_tape 92 = .ok (.aload_n 0, 1) by decide +kernel) rfl) rfl
    (sb_cons (pc2 := 96) (sx_getf (show decode cX12_tape 93 = .ok (.getfield 162, 3) by decide +kernel) rfl iX12 (by decide) wd_726) rfl
    (sb_cons (pc2 := 97) (sx_iconst (show decode cX12_tape 96 = .ok (.iconst 1, 1) by decide +kernel) (by decide)) rfl
    (sb_cons (pc2 := 98) (sx_isub (show decode cX12_tape 97 = .ok (.isub, 1) by decide +kernel)) rfl
    (sb_cons (pc2 := 99) (sx_reti (show decode cX12_tape 98 = .ok (.ireturn, 1) by decide +kernel) rfl) rfl sb_nil))))))))))))))))))))))))))))))))
  ms_nil))))
def kX12_tapes (X : px_X) : px_B := [(0, [], [px_iload 1, px_cS X 251 1, px_if1 (fun x => decide (x = 0)) 11, px_iload 3, px_if1 (fun x => decide (0 ≤ x)) 14], 11),
  (11, [false, false, false, false, false, false, false, false, false], [px_push (.int (-2)), px_reti], 14),
  (14, [true, true, true, true, false, false, false, false, false], [px_aload 0, px_getf 12 50, px_iload 1, px_iald 0, px_push (.int (-1)), px_if2 (fun x y => decide (x = y)) 37, px_aload 0, px_getf 12 50, px_iload 1, px_iald 0, px_push (.int 2), px_if2 (fun x y => decide (x = y)) 37, px_push (.int (-13)), px_reti], 37),
  (37, [true, true, true, true, false, false, false, false, false], [px_aload 0, px_getf 12 50, px_iload 1, px_iald 0, px_push (.int (-1)), px_if2 (fun x y => decide (¬ x = y)) 50, px_push (.int (-11)), px_reti], 50),
  (50, [true, true, true, true, false, false, false, false, false], [px_push (.int 0), px_istore 4], 53),
  (53, [true, true, true, true, true, false, false, false, false], [px_iload 4, px_iload 3, px_if2 (fun x y => decide (y ≤ x)) 198, px_iload 2, px_push (.int 3), px_iload 4, (px_i2 fun x y => x * y), (px_i2 fun x y => x + y), px_istore 5, px_iload 5, px_if1 (fun x => decide (x < 0)) 85, px_iload 5, px_aload 0, px_getf 12 51, px_iload 1, px_iald 0, px_push (.int 3), (px_i2 fun x y => x - y), px_if2 (fun x y => decide (x ≤ y)) 88], 85),
  (85, [false, false, false, false, false, false, false, false, false], [px_push (.int (-12)), px_reti], 88),
  (88, [true, true, true, true, true, true, false, false, false], [px_push (.int 40), px_iload 1, (px_i2 fun x y => x * y), px_iload 5, (px_i2 fun x y => x + y), px_istore 6, px_aload 0, px_getf 12 53, px_iload 6, px_iald 1, px_if1 (fun x => decide (¬ x = 0)) 131, px_aload 0, px_getf 12 53, px_iload 6, px_push (.int 1), (px_i2 fun x y => x + y), px_iald 1, px_if1 (fun x => decide (¬ x = 0)) 131, px_aload 0, px_getf 12 53, px_iload 6, px_push (.int 2), (px_i2 fun x y => x + y), px_iald 1, px_if1 (fun x => decide (x = 0)) 135], 131),
  (131, [true, true, true, true, true, false, true, false, false], [px_push (.int 1), px_goto 136], 135),
  (135, [true, true, true, true, true, false, true, false, false], [px_push (.int 0)], 136),
  (136, [true, true, true, true, true, false, true, false, false], [px_istore 7, px_iload 7, px_if1 (fun x => decide (x = 0)) 147, px_push (.int 0), px_goto 182], 147),
  (147, [true, true, true, true, true, false, true, false, false], [px_aload 0, px_aload 0, px_getf 12 52, px_iload 6, px_iald 0, px_push (.int 2), (px_i2d fun x y => x / y), px_aload 0, px_getf 12 52, px_iload 6, px_push (.int 1), (px_i2 fun x y => x + y), px_iald 0, px_push (.int 2), (px_i2d fun x y => x / y), px_aload 0, px_getf 12 52, px_iload 6, px_push (.int 2), (px_i2 fun x y => x + y), px_iald 0, px_push (.int 2), (px_i2d fun x y => x / y), px_cV X 170 4 12], 182),
  (182, [true, true, true, true, true, false, false, false, false], [px_istore 8, px_iload 8, px_if1 (fun x => decide (0 ≤ x)) 192, px_iload 8, px_reti], 192),
  (192, [true, true, true, true, true, false, false, false, false], [px_iinc 4 1, px_goto 53], 198),
  (198, [true, false, false, false, false, false, false, false, false], [px_aload 0, px_getf 12 6, px_reti], 203)]
set_option maxRecDepth 100000 in
set_option maxHeartbeats 8000000 in
theorem sX12_tapes (d : Nat) (X : px_X) : px_MS d X YX12_tapes (kX12_tapes X) :=
  (ms_cons
  (sb_cons (pc2 := 1) (sx_iload_n (show decode cX12_tapes 0 = .ok (.iload_n 1, 1) by decide +kernel) rfl) rfl
    (sb_cons (pc2 := 4) (sx_cS (Y' := YX12_isSheet) rfl (show decode cX12_tapes 1 = .ok (.invokestatic 165, 3) by decide +kernel) rfl (px_w3 wd_728 wd_729 wd_719) wd_727 ⟨by decide, by decide, by decide +kernel⟩ (by decide)) rfl
    (sb_cons (pc2 := 7) (sx_if_eq (show decode cX12_tapes 4 = .ok (.ifCond .eq 7, 3) by decide +kernel) (by decide)) rfl
    (sb_cons (pc2 := 8) (sx_iload_n (show decode cX12_tapes 7 = .ok (.iload_n 3, 1) by decide +kernel) rfl) rfl
    (sb_cons (pc2 := 11) (sx_if_ge (show decode cX12_tapes 8 = .ok (.ifCond .ge 6, 3) by decide +kernel) (by decide)) rfl sb_nil)))))
  (ms_cons
  (sb_cons (pc2 := 13) (sx_bipush (show decode cX12_tapes 11 = .ok (.bipush (-2), 2) by decide +kernel) (by decide)) rfl
    (sb_cons (pc2 := 14) (sx_reti (show decode cX12_tapes 13 = .ok (.ireturn, 1) by decide +kernel) rfl) rfl sb_nil))
  (ms_cons
  (sb_cons (pc2 := 15) (sx_aload_n (show decode cX12_tapes 14 = .ok (.aload_n 0, 1) by decide +kernel) rfl) rfl
    (sb_cons (pc2 := 18) (sx_getf (show decode cX12_tapes 15 = .ok (.getfield 117, 3) by decide +kernel) rfl iX12 (by decide) wd_706) rfl
    (sb_cons (pc2 := 19) (sx_iload_n (show decode cX12_tapes 18 = .ok (.iload_n 1, 1) by decide +kernel) rfl) rfl
    (sb_cons (pc2 := 20) (sx_iald (show decode cX12_tapes 19 = .ok (.iaload, 1) by decide +kernel)) rfl
    (sb_cons (pc2 := 21) (sx_iconst (show decode cX12_tapes 20 = .ok (.iconst (-1), 1) by decide +kernel) (by decide)) rfl
    (sb_cons (pc2 := 24) (sx_icmp_eq (show decode cX12_tapes 21 = .ok (.if_icmp .eq 16, 3) by decide +kernel) (by decide)) rfl
    (sb_cons (pc2 := 25) (sx_aload_n (show decode cX12_tapes 24 = .ok (.aload_n 0, 1) by decide +kernel) rfl) rfl
    (sb_cons (pc2 := 28) (sx_getf (show decode cX12_tapes 25 = .ok (.getfield 117, 3) by decide +kernel) rfl iX12 (by decide) wd_706) rfl
    (sb_cons (pc2 := 29) (sx_iload_n (show decode cX12_tapes 28 = .ok (.iload_n 1, 1) by decide +kernel) rfl) rfl
    (sb_cons (pc2 := 30) (sx_iald (show decode cX12_tapes 29 = .ok (.iaload, 1) by decide +kernel)) rfl
    (sb_cons (pc2 := 31) (sx_iconst (show decode cX12_tapes 30 = .ok (.iconst 2, 1) by decide +kernel) (by decide)) rfl
    (sb_cons (pc2 := 34) (sx_icmp_eq (show decode cX12_tapes 31 = .ok (.if_icmp .eq 6, 3) by decide +kernel) (by decide)) rfl
    (sb_cons (pc2 := 36) (sx_bipush (show decode cX12_tapes 34 = .ok (.bipush (-13), 2) by decide +kernel) (by decide)) rfl
    (sb_cons (pc2 := 37) (sx_reti (show decode cX12_tapes 36 = .ok (.ireturn, 1) by decide +kernel) rfl) rfl sb_nil))))))))))))))
  (ms_cons
  (sb_cons (pc2 := 38) (sx_aload_n (show decode cX12_tapes 37 = .ok (.aload_n 0, 1) by decide +kernel) rfl) rfl
    (sb_cons (pc2 := 41) (sx_getf (show decode cX12_tapes 38 = .ok (.getfield 117, 3) by decide +kernel) rfl iX12 (by decide) wd_706) rfl
    (sb_cons (pc2 := 42) (sx_iload_n (show decode cX12_tapes 41 = .ok (.iload_n 1, 1) by decide +kernel) rfl) rfl
    (sb_cons (pc2 := 43) (sx_iald (show decode cX12_tapes 42 = .ok (.iaload, 1) by decide +kernel)) rfl
    (sb_cons (pc2 := 44) (sx_iconst (show decode cX12_tapes 43 = .ok (.iconst (-1), 1) by decide +kernel) (by decide)) rfl
    (sb_cons (pc2 := 47) (sx_icmp_ne (show decode cX12_tapes 44 = .ok (.if_icmp .ne 6, 3) by decide +kernel) (by decide)) rfl
    (sb_cons (pc2 := 49) (sx_bipush (show decode cX12_tapes 47 = .ok (.bipush (-11), 2) by decide +kernel) (by decide)) rfl
    (sb_cons (pc2 := 50) (sx_reti (show decode cX12_tapes 49 = .ok (.ireturn, 1) by decide +kernel) rfl) rfl sb_nil))))))))
  (ms_cons
  (sb_cons (pc2 := 51) (sx_iconst (show decode cX12_tapes 50 = .ok (.iconst 0, 1) by decide +kernel) (by decide)) rfl
    (sb_cons (pc2 := 53) (sx_istore (show decode cX12_tapes 51 = .ok (.istore 4, 2) by decide +kernel)) rfl sb_nil))
  (ms_cons
  (sb_cons (pc2 := 55) (sx_iload (show decode cX12_tapes 53 = .ok (.iload 4, 2) by decide +kernel)) rfl
    (sb_cons (pc2 := 56) (sx_iload_n (show decode cX12_tapes 55 = .ok (.iload_n 3, 1) by decide +kernel) rfl) rfl
    (sb_cons (pc2 := 59) (sx_icmp_ge (show decode cX12_tapes 56 = .ok (.if_icmp .ge 142, 3) by decide +kernel) (by decide)) rfl
    (sb_cons (pc2 := 60) (sx_iload_n (show decode cX12_tapes 59 = .ok (.iload_n 2, 1) by decide +kernel) rfl) rfl
    (sb_cons (pc2 := 61) (sx_iconst (show decode cX12_tapes 60 = .ok (.iconst 3, 1) by decide +kernel) (by decide)) rfl
    (sb_cons (pc2 := 63) (sx_iload (show decode cX12_tapes 61 = .ok (.iload 4, 2) by decide +kernel)) rfl
    (sb_cons (pc2 := 64) (sx_imul (show decode cX12_tapes 63 = .ok (.imul, 1) by decide +kernel)) rfl
    (sb_cons (pc2 := 65) (sx_iadd (show decode cX12_tapes 64 = .ok (.iadd, 1) by decide +kernel)) rfl
    (sb_cons (pc2 := 67) (sx_istore (show decode cX12_tapes 65 = .ok (.istore 5, 2) by decide +kernel)) rfl
    (sb_cons (pc2 := 69) (sx_iload (show decode cX12_tapes 67 = .ok (.iload 5, 2) by decide +kernel)) rfl
    (sb_cons (pc2 := 72) (sx_if_lt (show decode cX12_tapes 69 = .ok (.ifCond .lt 16, 3) by decide +kernel) (by decide)) rfl
    (sb_cons (pc2 := 74) (sx_iload (show decode cX12_tapes 72 = .ok (.iload 5, 2) by decide +kernel)) rfl
    (sb_cons (pc2 := 75) (sx_aload_n (show decode cX12_tapes 74 = .ok (.aload_n 0, 1) by decide +kernel) rfl) rfl
    (sb_cons (pc2 := 78) (sx_getf (show decode cX12_tapes 75 = .ok (.getfield 120, 3) by decide +kernel) rfl iX12 (by decide) wd_707) rfl
    (sb_cons (pc2 := 79) (sx_iload_n (show decode cX12_tapes 78 = .ok (.iload_n 1, 1) by decide +kernel) rfl) rfl
    (sb_cons (pc2 := 80) (sx_iald (show decode cX12_tapes 79 = .ok (.iaload, 1) by decide +kernel)) rfl
    (sb_cons (pc2 := 81) (sx_iconst (show decode cX12_tapes 80 = .ok (.iconst 3, 1) by decide +kernel) (by decide)) rfl
    (sb_cons (pc2 := 82) (sx_isub (show decode cX12_tapes 81 = .ok (.isub, 1) by decide +kernel)) rfl
    (sb_cons (pc2 := 85) (sx_icmp_le (show decode cX12_tapes 82 = .ok (.if_icmp .le 6, 3) by decide +kernel) (by decide)) rfl sb_nil)))))))))))))))))))
  (ms_cons
  (sb_cons (pc2 := 87) (sx_bipush (show decode cX12_tapes 85 = .ok (.bipush (-12), 2) by decide +kernel) (by decide)) rfl
    (sb_cons (pc2 := 88) (sx_reti (show decode cX12_tapes 87 = .ok (.ireturn, 1) by decide +kernel) rfl) rfl sb_nil))
  (ms_cons
  (sb_cons (pc2 := 90) (sx_bipush (show decode cX12_tapes 88 = .ok (.bipush 40, 2) by decide +kernel) (by decide)) rfl
    (sb_cons (pc2 := 91) (sx_iload_n (show decode cX12_tapes 90 = .ok (.iload_n 1, 1) by decide +kernel) rfl) rfl
    (sb_cons (pc2 := 92) (sx_imul (show decode cX12_tapes 91 = .ok (.imul, 1) by decide +kernel)) rfl
    (sb_cons (pc2 := 94) (sx_iload (show decode cX12_tapes 92 = .ok (.iload 5, 2) by decide +kernel)) rfl
    (sb_cons (pc2 := 95) (sx_iadd (show decode cX12_tapes 94 = .ok (.iadd, 1) by decide +kernel)) rfl
    (sb_cons (pc2 := 97) (sx_istore (show decode cX12_tapes 95 = .ok (.istore 6, 2) by decide +kernel)) rfl
    (sb_cons (pc2 := 98) (sx_aload_n (show decode cX12_tapes 97 = .ok (.aload_n 0, 1) by decide +kernel) rfl) rfl
    (sb_cons (pc2 := 101) (sx_getf (show decode cX12_tapes 98 = .ok (.getfield 126, 3) by decide +kernel) rfl iX12 (by decide) wd_709) rfl
    (sb_cons (pc2 := 103) (sx_iload (show decode cX12_tapes 101 = .ok (.iload 6, 2) by decide +kernel)) rfl
    (sb_cons (pc2 := 104) (sx_zald (show decode cX12_tapes 103 = .ok (.baload, 1) by decide +kernel)) rfl
    (sb_cons (pc2 := 107) (sx_if_ne (show decode cX12_tapes 104 = .ok (.ifCond .ne 27, 3) by decide +kernel) (by decide)) rfl
    (sb_cons (pc2 := 108) (sx_aload_n (show decode cX12_tapes 107 = .ok (.aload_n 0, 1) by decide +kernel) rfl) rfl
    (sb_cons (pc2 := 111) (sx_getf (show decode cX12_tapes 108 = .ok (.getfield 126, 3) by decide +kernel) rfl iX12 (by decide) wd_709) rfl
    (sb_cons (pc2 := 113) (sx_iload (show decode cX12_tapes 111 = .ok (.iload 6, 2) by decide +kernel)) rfl
    (sb_cons (pc2 := 114) (sx_iconst (show decode cX12_tapes 113 = .ok (.iconst 1, 1) by decide +kernel) (by decide)) rfl
    (sb_cons (pc2 := 115) (sx_iadd (show decode cX12_tapes 114 = .ok (.iadd, 1) by decide +kernel)) rfl
    (sb_cons (pc2 := 116) (sx_zald (show decode cX12_tapes 115 = .ok (.baload, 1) by decide +kernel)) rfl
    (sb_cons (pc2 := 119) (sx_if_ne (show decode cX12_tapes 116 = .ok (.ifCond .ne 15, 3) by decide +kernel) (by decide)) rfl
    (sb_cons (pc2 := 120) (sx_aload_n (show decode cX12_tapes 119 = .ok (.aload_n 0, 1) by decide +kernel) rfl) rfl
    (sb_cons (pc2 := 123) (sx_getf (show decode cX12_tapes 120 = .ok (.getfield 126, 3) by decide +kernel) rfl iX12 (by decide) wd_709) rfl
    (sb_cons (pc2 := 125) (sx_iload (show decode cX12_tapes 123 = .ok (.iload 6, 2) by decide +kernel)) rfl
    (sb_cons (pc2 := 126) (sx_iconst (show decode cX12_tapes 125 = .ok (.iconst 2, 1) by decide +kernel) (by decide)) rfl
    (sb_cons (pc2 := 127) (sx_iadd (show decode cX12_tapes 126 = .ok (.iadd, 1) by decide +kernel)) rfl
    (sb_cons (pc2 := 128) (sx_zald (show decode cX12_tapes 127 = .ok (.baload, 1) by decide +kernel)) rfl
    (sb_cons (pc2 := 131) (sx_if_eq (show decode cX12_tapes 128 = .ok (.ifCond .eq 7, 3) by decide +kernel) (by decide)) rfl sb_nil)))))))))))))))))))))))))
  (ms_cons
  (sb_cons (pc2 := 132) (sx_iconst (show decode cX12_tapes 131 = .ok (.iconst 1, 1) by decide +kernel) (by decide)) rfl
    (sb_cons (pc2 := 135) (px_snd_goto (show decode cX12_tapes 132 = .ok (.goto 4, 3) by decide +kernel) (by decide)) rfl sb_nil))
  (ms_cons
  (sb_cons (pc2 := 136) (sx_iconst (show decode cX12_tapes 135 = .ok (.iconst 0, 1) by decide +kernel) (by decide)) rfl sb_nil)
  (ms_cons
  (sb_cons (pc2 := 138) (sx_istore (show decode cX12_tapes 136 = .ok (.istore 7, 2) by decide +kernel)) rfl
    (sb_cons (pc2 := 140) (sx_iload (show decode cX12_tapes 138 = .ok (.iload 7, 2) by decide +kernel)) rfl
    (sb_cons (pc2 := 143) (sx_if_eq (show decode cX12_tapes 140 = .ok (.ifCond .eq 7, 3) by decide +kernel) (by decide)) rfl
    (sb_cons (pc2 := 144) (sx_iconst (show decode cX12_tapes 143 = .ok (.iconst 0, 1) by decide +kernel) (by decide)) rfl
    (sb_cons (pc2 := 147) (px_snd_goto (show decode cX12_tapes 144 = .ok (.goto 38, 3) by decide +kernel) (by decide)) rfl sb_nil)))))
  (ms_cons
  (sb_cons (pc2 := 148) (sx_aload_n (show decode cX12_tapes 147 = .ok (.aload_n 0, 1) by decide +kernel) rfl) rfl
    (sb_cons (pc2 := 149) (sx_aload_n (show decode cX12_tapes 148 = .ok (.aload_n 0, 1) by decide +kernel) rfl) rfl
    (sb_cons (pc2 := 152) (sx_getf (show decode cX12_tapes 149 = .ok (.getfield 123, 3) by decide +kernel) rfl iX12 (by decide) wd_708) rfl
    (sb_cons (pc2 := 154) (sx_iload (show decode cX12_tapes 152 = .ok (.iload 6, 2) by decide +kernel)) rfl
    (sb_cons (pc2 := 155) (sx_iald (show decode cX12_tapes 154 = .ok (.iaload, 1) by decide +kernel)) rfl
    (sb_cons (pc2 := 156) (sx_iconst (show decode cX12_tapes 155 = .ok (.iconst 2, 1) by decide +kernel) (by decide)) rfl
    (sb_cons (pc2 := 157) (sx_idiv (show decode cX12_tapes 156 = .ok (.idiv, 1) by decide +kernel)) rfl
    (sb_cons (pc2 := 158) (sx_aload_n (show decode cX12_tapes 157 = .ok (.aload_n 0, 1) by decide +kernel) rfl) rfl
    (sb_cons (pc2 := 161) (sx_getf (show decode cX12_tapes 158 = .ok (.getfield 123, 3) by decide +kernel) rfl iX12 (by decide) wd_708) rfl
    (sb_cons (pc2 := 163) (sx_iload (show decode cX12_tapes 161 = .ok (.iload 6, 2) by decide +kernel)) rfl
    (sb_cons (pc2 := 164) (sx_iconst (show decode cX12_tapes 163 = .ok (.iconst 1, 1) by decide +kernel) (by decide)) rfl
    (sb_cons (pc2 := 165) (sx_iadd (show decode cX12_tapes 164 = .ok (.iadd, 1) by decide +kernel)) rfl
    (sb_cons (pc2 := 166) (sx_iald (show decode cX12_tapes 165 = .ok (.iaload, 1) by decide +kernel)) rfl
    (sb_cons (pc2 := 167) (sx_iconst (show decode cX12_tapes 166 = .ok (.iconst 2, 1) by decide +kernel) (by decide)) rfl
    (sb_cons (pc2 := 168) (sx_idiv (show decode cX12_tapes 167 = .ok (.idiv, 1) by decide +kernel)) rfl
    (sb_cons (pc2 := 169) (sx_aload_n (show decode cX12_tapes 168 = .ok (.aload_n 0, 1) by decide +kernel) rfl) rfl
    (sb_cons (pc2 := 172) (sx_getf (show decode cX12_tapes 169 = .ok (.getfield 123, 3) by decide +kernel) rfl iX12 (by decide) wd_708) rfl
    (sb_cons (pc2 := 174) (sx_iload (show decode cX12_tapes 172 = .ok (.iload 6, 2) by decide +kernel)) rfl
    (sb_cons (pc2 := 175) (sx_iconst (show decode cX12_tapes 174 = .ok (.iconst 2, 1) by decide +kernel) (by decide)) rfl
    (sb_cons (pc2 := 176) (sx_iadd (show decode cX12_tapes 175 = .ok (.iadd, 1) by decide +kernel)) rfl
    (sb_cons (pc2 := 177) (sx_iald (show decode cX12_tapes 176 = .ok (.iaload, 1) by decide +kernel)) rfl
    (sb_cons (pc2 := 178) (sx_iconst (show decode cX12_tapes 177 = .ok (.iconst 2, 1) by decide +kernel) (by decide)) rfl
    (sb_cons (pc2 := 179) (sx_idiv (show decode cX12_tapes 178 = .ok (.idiv, 1) by decide +kernel)) rfl
    (sb_cons (pc2 := 182) (sx_cV (Y' := YX12_tape) (q := (RX12, TX12, 69)) rfl (show decode cX12_tapes 179 = .ok (.invokevirtual 168, 3) by decide +kernel) rfl rfl (px_w4 wd_731 wd_732 wd_733 wd_719) wd_730 ⟨by decide, by decide, by decide +kernel⟩ (by decide)) rfl sb_nil))))))))))))))))))))))))
  (ms_cons
  (sb_cons (pc2 := 184) (sx_istore (show decode cX12_tapes 182 = .ok (.istore 8, 2) by decide +kernel)) rfl
    (sb_cons (pc2 := 186) (sx_iload (show decode cX12_tapes 184 = .ok (.iload 8, 2) by decide +kernel)) rfl
    (sb_cons (pc2 := 189) (sx_if_ge (show decode cX12_tapes 186 = .ok (.ifCond .ge 6, 3) by decide +kernel) (by decide)) rfl
    (sb_cons (pc2 := 191) (sx_iload (show decode cX12_tapes 189 = .ok (.iload 8, 2) by decide +kernel)) rfl
    (sb_cons (pc2 := 192) (sx_reti (show decode cX12_tapes 191 = .ok (.ireturn, 1) by decide +kernel) rfl) rfl sb_nil)))))
  (ms_cons
  (sb_cons (pc2 := 195) (sx_iinc (show decode cX12_tapes 192 = .ok (.iinc 4 1, 3) by decide +kernel) (by decide)) rfl
    (sb_cons (pc2 := 198) (px_snd_goto (show decode cX12_tapes 195 = .ok (.goto (-142), 3) by decide +kernel) (by decide)) rfl sb_nil))
  (ms_cons
  (sb_cons (pc2 := 199) (sx_aload_n (show decode cX12_tapes 198 = .ok (.aload_n 0, 1) by decide +kernel) rfl) rfl
    (sb_cons (pc2 := 202) (sx_getf (show decode cX12_tapes 199 = .ok (.getfield 162, 3) by decide +kernel) rfl iX12 (by decide) wd_726) rfl
    (sb_cons (pc2 := 203) (sx_reti (show decode cX12_tapes 202 = .ok (.ireturn, 1) by decide +kernel) rfl) rfl sb_nil)))
  ms_nil)))))))))))))))
def kX12_bar (X : px_X) : px_B := [(0, [], [px_iload 1, px_push (.int 1), px_push (.int 15000), px_cS X 165 3, px_if1 (fun x => decide (¬ x = 0)) 14, px_push (.int (-2)), px_reti], 14),
  (14, [true, true, false], [px_aload 0, px_getf 12 12, px_istore 2, px_aload 0, px_iload 1, px_puti 12 12, px_aload 0, px_push (.int 0), px_putz 12 11, px_iload 2, px_reti], 31)]
set_option maxRecDepth 100000 in
set_option maxHeartbeats 8000000 in
theorem sX12_bar (d : Nat) (X : px_X) : px_MS d X YX12_bar (kX12_bar X) :=
  (ms_cons
  (sb_cons (pc2 := 1) (sx_iload_n (show decode cX12_bar 0 = .ok (.iload_n 1, 1) by decide +kernel) rfl) rfl
    (sb_cons (pc2 := 2) (sx_iconst (show decode cX12_bar 1 = .ok (.iconst 1, 1) by decide +kernel) (by decide)) rfl
    (sb_cons (pc2 := 5) (sx_sipush (show decode cX12_bar 2 = .ok (.sipush 15000, 3) by decide +kernel) (by decide)) rfl
    (sb_cons (pc2 := 8) (sx_cS (Y' := YX12_in) rfl (show decode cX12_bar 5 = .ok (.invokestatic 147, 3) by decide +kernel) rfl (px_w3 wd_717 wd_718 wd_719) wd_716 ⟨by decide, by decide, by decide +kernel⟩ (by decide)) rfl
    (sb_cons (pc2 := 11) (sx_if_ne (show decode cX12_bar 8 = .ok (.ifCond .ne 6, 3) by decide +kernel) (by decide)) rfl
    (sb_cons (pc2 := 13) (sx_bipush (show decode cX12_bar 11 = .ok (.bipush (-2), 2) by decide +kernel) (by decide)) rfl
    (sb_cons (pc2 := 14) (sx_reti (show decode cX12_bar 13 = .ok (.ireturn, 1) by decide +kernel) rfl) rfl sb_nil)))))))
  (ms_cons
  (sb_cons (pc2 := 15) (sx_aload_n (show decode cX12_bar 14 = .ok (.aload_n 0, 1) by decide +kernel) rfl) rfl
    (sb_cons (pc2 := 18) (sx_getf (show decode cX12_bar 15 = .ok (.getfield 38, 3) by decide +kernel) rfl iX12 (by decide) wd_680) rfl
    (sb_cons (pc2 := 19) (sx_istore_n (show decode cX12_bar 18 = .ok (.istore_n 2, 1) by decide +kernel) rfl) rfl
    (sb_cons (pc2 := 20) (sx_aload_n (show decode cX12_bar 19 = .ok (.aload_n 0, 1) by decide +kernel) rfl) rfl
    (sb_cons (pc2 := 21) (sx_iload_n (show decode cX12_bar 20 = .ok (.iload_n 1, 1) by decide +kernel) rfl) rfl
    (sb_cons (pc2 := 24) (sx_puti (show decode cX12_bar 21 = .ok (.putfield 38, 3) by decide +kernel) rfl iX12 tyX12_ok nmX12 (by decide) wd_680 rfl (Or.inl rfl)) rfl
    (sb_cons (pc2 := 25) (sx_aload_n (show decode cX12_bar 24 = .ok (.aload_n 0, 1) by decide +kernel) rfl) rfl
    (sb_cons (pc2 := 26) (sx_iconst (show decode cX12_bar 25 = .ok (.iconst 0, 1) by decide +kernel) (by decide)) rfl
    (sb_cons (pc2 := 29) (sx_putz (show decode cX12_bar 26 = .ok (.putfield 154, 3) by decide +kernel) rfl iX12 tyX12_ok nmX12 (by decide) wd_721 rfl rfl) rfl
    (sb_cons (pc2 := 30) (sx_iload_n (show decode cX12_bar 29 = .ok (.iload_n 2, 1) by decide +kernel) rfl) rfl
    (sb_cons (pc2 := 31) (sx_reti (show decode cX12_bar 30 = .ok (.ireturn, 1) by decide +kernel) rfl) rfl sb_nil)))))))))))
  ms_nil))
def kX12_root (X : px_X) : px_B := [(0, [], [px_push (.int 0), px_istore 1, px_push (.int 32768), px_istore 2], 5),
  (5, [true, true, true, false], [px_iload 2, px_if1 (fun x => decide (x ≤ 0)) 39, px_iload 1, px_iload 2, (px_i2 fun x y => x + y), px_istore 3, px_iload 3, px_push (.int 46340), px_if2 (fun x y => decide (y < x)) 30, px_iload 3, px_iload 3, (px_i2 fun x y => x * y), px_iload 0, px_if2 (fun x y => decide (y < x)) 30, px_iload 3, px_goto 31], 30),
  (30, [true, true, true, false], [px_iload 1], 31),
  (31, [true, false, true, false], [px_istore 1, px_iload 2, px_push (.int 1), (px_i2 fun x y => x >>> (y &&& 31)), px_istore 2, px_goto 5], 39),
  (39, [false, true, false, false], [px_iload 1, px_reti], 41)]
set_option maxRecDepth 100000 in
set_option maxHeartbeats 8000000 in
theorem sX12_root (d : Nat) (X : px_X) : px_MS d X YX12_root (kX12_root X) :=
  (ms_cons
  (sb_cons (pc2 := 1) (sx_iconst (show decode cX12_root 0 = .ok (.iconst 0, 1) by decide +kernel) (by decide)) rfl
    (sb_cons (pc2 := 2) (sx_istore_n (show decode cX12_root 1 = .ok (.istore_n 1, 1) by decide +kernel) rfl) rfl
    (sb_cons (pc2 := 4) (sx_ldc (show decode cX12_root 2 = .ok (.ldc 171, 2) by decide +kernel) wd_734) rfl
    (sb_cons (pc2 := 5) (sx_istore_n (show decode cX12_root 4 = .ok (.istore_n 2, 1) by decide +kernel) rfl) rfl sb_nil))))
  (ms_cons
  (sb_cons (pc2 := 6) (sx_iload_n (show decode cX12_root 5 = .ok (.iload_n 2, 1) by decide +kernel) rfl) rfl
    (sb_cons (pc2 := 9) (sx_if_le (show decode cX12_root 6 = .ok (.ifCond .le 33, 3) by decide +kernel) (by decide)) rfl
    (sb_cons (pc2 := 10) (sx_iload_n (show decode cX12_root 9 = .ok (.iload_n 1, 1) by decide +kernel) rfl) rfl
    (sb_cons (pc2 := 11) (sx_iload_n (show decode cX12_root 10 = .ok (.iload_n 2, 1) by decide +kernel) rfl) rfl
    (sb_cons (pc2 := 12) (sx_iadd (show decode cX12_root 11 = .ok (.iadd, 1) by decide +kernel)) rfl
    (sb_cons (pc2 := 13) (sx_istore_n (show decode cX12_root 12 = .ok (.istore_n 3, 1) by decide +kernel) rfl) rfl
    (sb_cons (pc2 := 14) (sx_iload_n (show decode cX12_root 13 = .ok (.iload_n 3, 1) by decide +kernel) rfl) rfl
    (sb_cons (pc2 := 16) (sx_ldc (show decode cX12_root 14 = .ok (.ldc 172, 2) by decide +kernel) wd_735) rfl
    (sb_cons (pc2 := 19) (sx_icmp_gt (show decode cX12_root 16 = .ok (.if_icmp .gt 14, 3) by decide +kernel) (by decide)) rfl
    (sb_cons (pc2 := 20) (sx_iload_n (show decode cX12_root 19 = .ok (.iload_n 3, 1) by decide +kernel) rfl) rfl
    (sb_cons (pc2 := 21) (sx_iload_n (show decode cX12_root 20 = .ok (.iload_n 3, 1) by decide +kernel) rfl) rfl
    (sb_cons (pc2 := 22) (sx_imul (show decode cX12_root 21 = .ok (.imul, 1) by decide +kernel)) rfl
    (sb_cons (pc2 := 23) (sx_iload_n (show decode cX12_root 22 = .ok (.iload_n 0, 1) by decide +kernel) rfl) rfl
    (sb_cons (pc2 := 26) (sx_icmp_gt (show decode cX12_root 23 = .ok (.if_icmp .gt 7, 3) by decide +kernel) (by decide)) rfl
    (sb_cons (pc2 := 27) (sx_iload_n (show decode cX12_root 26 = .ok (.iload_n 3, 1) by decide +kernel) rfl) rfl
    (sb_cons (pc2 := 30) (px_snd_goto (show decode cX12_root 27 = .ok (.goto 4, 3) by decide +kernel) (by decide)) rfl sb_nil))))))))))))))))
  (ms_cons
  (sb_cons (pc2 := 31) (sx_iload_n (show decode cX12_root 30 = .ok (.iload_n 1, 1) by decide +kernel) rfl) rfl sb_nil)
  (ms_cons
  (sb_cons (pc2 := 32) (sx_istore_n (show decode cX12_root 31 = .ok (.istore_n 1, 1) by decide +kernel) rfl) rfl
    (sb_cons (pc2 := 33) (sx_iload_n (show decode cX12_root 32 = .ok (.iload_n 2, 1) by decide +kernel) rfl) rfl
    (sb_cons (pc2 := 34) (sx_iconst (show decode cX12_root 33 = .ok (.iconst 1, 1) by decide +kernel) (by decide)) rfl
    (sb_cons (pc2 := 35) (sx_ishr (show decode cX12_root 34 = .ok (.ishr, 1) by decide +kernel)) rfl
    (sb_cons (pc2 := 36) (sx_istore_n (show decode cX12_root 35 = .ok (.istore_n 2, 1) by decide +kernel) rfl) rfl
    (sb_cons (pc2 := 39) (px_snd_goto (show decode cX12_root 36 = .ok (.goto (-31), 3) by decide +kernel) (by decide)) rfl sb_nil))))))
  (ms_cons
  (sb_cons (pc2 := 40) (sx_iload_n (show decode cX12_root 39 = .ok (.iload_n 1, 1) by decide +kernel) rfl) rfl
    (sb_cons (pc2 := 41) (sx_reti (show decode cX12_root 40 = .ok (.ireturn, 1) by decide +kernel) rfl) rfl sb_nil))
  ms_nil)))))
def kX12_miss (X : px_X) : px_B := [(0, [], [px_aload 0, px_getf 12 3, px_aload 0, px_getf 12 7, px_iload 1, px_iald 0, px_iald 0, px_aload 0, px_getf 12 3, px_aload 0, px_getf 12 8, px_iload 1, px_iald 0, px_iald 0, (px_i2 fun x y => x - y), px_istore 2, px_aload 0, px_getf 12 4, px_aload 0, px_getf 12 7, px_iload 1, px_iald 0, px_iald 0, px_aload 0, px_getf 12 4, px_aload 0, px_getf 12 8, px_iload 1, px_iald 0, px_iald 0, (px_i2 fun x y => x - y), px_istore 3, px_iload 2, px_iload 2, (px_i2 fun x y => x * y), px_iload 3, px_iload 3, (px_i2 fun x y => x * y), (px_i2 fun x y => x + y), px_cS X 173 1, px_aload 0, px_getf 12 9, px_iload 1, px_iald 0, (px_i2 fun x y => x - y), px_reti], 66)]
set_option maxRecDepth 100000 in
set_option maxHeartbeats 8000000 in
theorem sX12_miss (d : Nat) (X : px_X) : px_MS d X YX12_miss (kX12_miss X) :=
  (ms_cons
  (sb_cons (pc2 := 1) (sx_aload_n (show decode cX12_miss 0 = .ok (.aload_n 0, 1) by decide +kernel) rfl) rfl
    (sb_cons (pc2 := 4) (sx_getf (show decode cX12_miss 1 = .ok (.getfield 16, 3) by decide +kernel) rfl iX12 (by decide) wd_673) rfl
    (sb_cons (pc2 := 5) (sx_aload_n (show decode cX12_miss 4 = .ok (.aload_n 0, 1) by decide +kernel) rfl) rfl
    (sb_cons (pc2 := 8) (sx_getf (show decode cX12_miss 5 = .ok (.getfield 26, 3) by decide +kernel) rfl iX12 (by decide) wd_676) rfl
    (sb_cons (pc2 := 9) (sx_iload_n (show decode cX12_miss 8 = .ok (.iload_n 1, 1) by decide +kernel) rfl) rfl
    (sb_cons (pc2 := 10) (sx_iald (show decode cX12_miss 9 = .ok (.iaload, 1) by decide +kernel)) rfl
    (sb_cons (pc2 := 11) (sx_iald (show decode cX12_miss 10 = .ok (.iaload, 1) by decide +kernel)) rfl
    (sb_cons (pc2 := 12) (sx_aload_n (show decode cX12_miss 11 = .ok (.aload_n 0, 1) by decide +kernel) rfl) rfl
    (sb_cons (pc2 := 15) (sx_getf (show decode cX12_miss 12 = .ok (.getfield 16, 3) by decide +kernel) rfl iX12 (by decide) wd_673) rfl
    (sb_cons (pc2 := 16) (sx_aload_n (show decode cX12_miss 15 = .ok (.aload_n 0, 1) by decide +kernel) rfl) rfl
    (sb_cons (pc2 := 19) (sx_getf (show decode cX12_miss 16 = .ok (.getfield 29, 3) by decide +kernel) rfl iX12 (by decide) wd_677) rfl
    (sb_cons (pc2 := 20) (sx_iload_n (show decode cX12_miss 19 = .ok (.iload_n 1, 1) by decide +kernel) rfl) rfl
    (sb_cons (pc2 := 21) (sx_iald (show decode cX12_miss 20 = .ok (.iaload, 1) by decide +kernel)) rfl
    (sb_cons (pc2 := 22) (sx_iald (show decode cX12_miss 21 = .ok (.iaload, 1) by decide +kernel)) rfl
    (sb_cons (pc2 := 23) (sx_isub (show decode cX12_miss 22 = .ok (.isub, 1) by decide +kernel)) rfl
    (sb_cons (pc2 := 24) (sx_istore_n (show decode cX12_miss 23 = .ok (.istore_n 2, 1) by decide +kernel) rfl) rfl
    (sb_cons (pc2 := 25) (sx_aload_n (show decode cX12_miss 24 = .ok (.aload_n 0, 1) by decide +kernel) rfl) rfl
    (sb_cons (pc2 := 28) (sx_getf (show decode cX12_miss 25 = .ok (.getfield 19, 3) by decide +kernel) rfl iX12 (by decide) wd_674) rfl
    (sb_cons (pc2 := 29) (sx_aload_n (show decode cX12_miss 28 = .ok (.aload_n 0, 1) by decide +kernel) rfl) rfl
    (sb_cons (pc2 := 32) (sx_getf (show decode cX12_miss 29 = .ok (.getfield 26, 3) by decide +kernel) rfl iX12 (by decide) wd_676) rfl
    (sb_cons (pc2 := 33) (sx_iload_n (show decode cX12_miss 32 = .ok (.iload_n 1, 1) by decide +kernel) rfl) rfl
    (sb_cons (pc2 := 34) (sx_iald (show decode cX12_miss 33 = .ok (.iaload, 1) by decide +kernel)) rfl
    (sb_cons (pc2 := 35) (sx_iald (show decode cX12_miss 34 = .ok (.iaload, 1) by decide +kernel)) rfl
    (sb_cons (pc2 := 36) (sx_aload_n (show decode cX12_miss 35 = .ok (.aload_n 0, 1) by decide +kernel) rfl) rfl
    (sb_cons (pc2 := 39) (sx_getf (show decode cX12_miss 36 = .ok (.getfield 19, 3) by decide +kernel) rfl iX12 (by decide) wd_674) rfl
    (sb_cons (pc2 := 40) (sx_aload_n (show decode cX12_miss 39 = .ok (.aload_n 0, 1) by decide +kernel) rfl) rfl
    (sb_cons (pc2 := 43) (sx_getf (show decode cX12_miss 40 = .ok (.getfield 29, 3) by decide +kernel) rfl iX12 (by decide) wd_677) rfl
    (sb_cons (pc2 := 44) (sx_iload_n (show decode cX12_miss 43 = .ok (.iload_n 1, 1) by decide +kernel) rfl) rfl
    (sb_cons (pc2 := 45) (sx_iald (show decode cX12_miss 44 = .ok (.iaload, 1) by decide +kernel)) rfl
    (sb_cons (pc2 := 46) (sx_iald (show decode cX12_miss 45 = .ok (.iaload, 1) by decide +kernel)) rfl
    (sb_cons (pc2 := 47) (sx_isub (show decode cX12_miss 46 = .ok (.isub, 1) by decide +kernel)) rfl
    (sb_cons (pc2 := 48) (sx_istore_n (show decode cX12_miss 47 = .ok (.istore_n 3, 1) by decide +kernel) rfl) rfl
    (sb_cons (pc2 := 49) (sx_iload_n (show decode cX12_miss 48 = .ok (.iload_n 2, 1) by decide +kernel) rfl) rfl
    (sb_cons (pc2 := 50) (sx_iload_n (show decode cX12_miss 49 = .ok (.iload_n 2, 1) by decide +kernel) rfl) rfl
    (sb_cons (pc2 := 51) (sx_imul (show decode cX12_miss 50 = .ok (.imul, 1) by decide +kernel)) rfl
    (sb_cons (pc2 := 52) (sx_iload_n (show decode cX12_miss 51 = .ok (.iload_n 3, 1) by decide +kernel) rfl) rfl
    (sb_cons (pc2 := 53) (sx_iload_n (show decode cX12_miss 52 = .ok (.iload_n 3, 1) by decide +kernel) rfl) rfl
    (sb_cons (pc2 := 54) (sx_imul (show decode cX12_miss 53 = .ok (.imul, 1) by decide +kernel)) rfl
    (sb_cons (pc2 := 55) (sx_iadd (show decode cX12_miss 54 = .ok (.iadd, 1) by decide +kernel)) rfl
    (sb_cons (pc2 := 58) (sx_cS (Y' := YX12_root) rfl (show decode cX12_miss 55 = .ok (.invokestatic 173, 3) by decide +kernel) rfl (px_w3 wd_737 wd_738 wd_719) wd_736 ⟨by decide, by decide, by decide +kernel⟩ (by decide)) rfl
    (sb_cons (pc2 := 59) (sx_aload_n (show decode cX12_miss 58 = .ok (.aload_n 0, 1) by decide +kernel) rfl) rfl
    (sb_cons (pc2 := 62) (sx_getf (show decode cX12_miss 59 = .ok (.getfield 32, 3) by decide +kernel) rfl iX12 (by decide) wd_678) rfl
    (sb_cons (pc2 := 63) (sx_iload_n (show decode cX12_miss 62 = .ok (.iload_n 1, 1) by decide +kernel) rfl) rfl
    (sb_cons (pc2 := 64) (sx_iald (show decode cX12_miss 63 = .ok (.iaload, 1) by decide +kernel)) rfl
    (sb_cons (pc2 := 65) (sx_isub (show decode cX12_miss 64 = .ok (.isub, 1) by decide +kernel)) rfl
    (sb_cons (pc2 := 66) (sx_reti (show decode cX12_miss 65 = .ok (.ireturn, 1) by decide +kernel) rfl) rfl sb_nil))))))))))))))))))))))))))))))))))))))))))))))
  ms_nil)
def kX12_misses (X : px_X) : px_B := [(0, [], [px_push (.long 0), px_lstore 2, px_push (.int 0), px_istore 4], 5),
  (5, [true, true, true, false, true, false, false], [px_iload 4, px_aload 0, px_getf 12 6, px_if2 (fun x y => decide (y ≤ x)) 69, px_aload 0, px_getf 12 10, px_iload 4, px_iald 1, px_if1 (fun x => decide (¬ x = 0)) 63, px_aload 0, px_getf 12 7, px_iload 4, px_iald 0, px_iload 1, px_if2 (fun x y => decide (x = y)) 46, px_aload 0, px_getf 12 8, px_iload 4, px_iald 0, px_iload 1, px_if2 (fun x y => decide (¬ x = y)) 63], 46),
  (46, [true, true, true, false, true, false, false], [px_aload 0, px_iload 4, px_cV X 174 2 12, px_i2l, px_lstore 5, px_lload 2, px_lload 5, px_lload 5, (px_l2 fun x y => x * y), (px_l2 fun x y => x + y), px_lstore 2], 63),
  (63, [true, true, true, false, true, false, false], [px_iinc 4 1, px_goto 5], 69),
  (69, [false, false, true, false, false, false, false], [px_lload 2, px_retl], 71)]
set_option maxRecDepth 100000 in
set_option maxHeartbeats 8000000 in
theorem sX12_misses (d : Nat) (X : px_X) : px_MS d X YX12_misses (kX12_misses X) :=
  (ms_cons
  (sb_cons (pc2 := 1) (sx_lconst (show decode cX12_misses 0 = .ok (.lconst 0, 1) by decide +kernel) (by decide)) rfl
    (sb_cons (pc2 := 2) (sx_lstore_n (show decode cX12_misses 1 = .ok (.lstore_n 2, 1) by decide +kernel) rfl) rfl
    (sb_cons (pc2 := 3) (sx_iconst (show decode cX12_misses 2 = .ok (.iconst 0, 1) by decide +kernel) (by decide)) rfl
    (sb_cons (pc2 := 5) (sx_istore (show decode cX12_misses 3 = .ok (.istore 4, 2) by decide +kernel)) rfl sb_nil))))
  (ms_cons
  (sb_cons (pc2 := 7) (sx_iload (show decode cX12_misses 5 = .ok (.iload 4, 2) by decide +kernel)) rfl
    (sb_cons (pc2 := 8) (sx_aload_n (show decode cX12_misses 7 = .ok (.aload_n 0, 1) by decide +kernel) rfl) rfl
    (sb_cons (pc2 := 11) (sx_getf (show decode cX12_misses 8 = .ok (.getfield 162, 3) by decide +kernel) rfl iX12 (by decide) wd_726) rfl
    (sb_cons (pc2 := 14) (sx_icmp_ge (show decode cX12_misses 11 = .ok (.if_icmp .ge 58, 3) by decide +kernel) (by decide)) rfl
    (sb_cons (pc2 := 15) (sx_aload_n (show decode cX12_misses 14 = .ok (.aload_n 0, 1) by decide +kernel) rfl) rfl
    (sb_cons (pc2 := 18) (sx_getf (show decode cX12_misses 15 = .ok (.getfield 35, 3) by decide +kernel) rfl iX12 (by decide) wd_679) rfl
    (sb_cons (pc2 := 20) (sx_iload (show decode cX12_misses 18 = .ok (.iload 4, 2) by decide +kernel)) rfl
    (sb_cons (pc2 := 21) (sx_zald (show decode cX12_misses 20 = .ok (.baload, 1) by decide +kernel)) rfl
    (sb_cons (pc2 := 24) (sx_if_ne (show decode cX12_misses 21 = .ok (.ifCond .ne 42, 3) by decide +kernel) (by decide)) rfl
    (sb_cons (pc2 := 25) (sx_aload_n (show decode cX12_misses 24 = .ok (.aload_n 0, 1) by decide +kernel) rfl) rfl
    (sb_cons (pc2 := 28) (sx_getf (show decode cX12_misses 25 = .ok (.getfield 26, 3) by decide +kernel) rfl iX12 (by decide) wd_676) rfl
    (sb_cons (pc2 := 30) (sx_iload (show decode cX12_misses 28 = .ok (.iload 4, 2) by decide +kernel)) rfl
    (sb_cons (pc2 := 31) (sx_iald (show decode cX12_misses 30 = .ok (.iaload, 1) by decide +kernel)) rfl
    (sb_cons (pc2 := 32) (sx_iload_n (show decode cX12_misses 31 = .ok (.iload_n 1, 1) by decide +kernel) rfl) rfl
    (sb_cons (pc2 := 35) (sx_icmp_eq (show decode cX12_misses 32 = .ok (.if_icmp .eq 14, 3) by decide +kernel) (by decide)) rfl
    (sb_cons (pc2 := 36) (sx_aload_n (show decode cX12_misses 35 = .ok (.aload_n 0, 1) by decide +kernel) rfl) rfl
    (sb_cons (pc2 := 39) (sx_getf (show decode cX12_misses 36 = .ok (.getfield 29, 3) by decide +kernel) rfl iX12 (by decide) wd_677) rfl
    (sb_cons (pc2 := 41) (sx_iload (show decode cX12_misses 39 = .ok (.iload 4, 2) by decide +kernel)) rfl
    (sb_cons (pc2 := 42) (sx_iald (show decode cX12_misses 41 = .ok (.iaload, 1) by decide +kernel)) rfl
    (sb_cons (pc2 := 43) (sx_iload_n (show decode cX12_misses 42 = .ok (.iload_n 1, 1) by decide +kernel) rfl) rfl
    (sb_cons (pc2 := 46) (sx_icmp_ne (show decode cX12_misses 43 = .ok (.if_icmp .ne 20, 3) by decide +kernel) (by decide)) rfl sb_nil)))))))))))))))))))))
  (ms_cons
  (sb_cons (pc2 := 47) (sx_aload_n (show decode cX12_misses 46 = .ok (.aload_n 0, 1) by decide +kernel) rfl) rfl
    (sb_cons (pc2 := 49) (sx_iload (show decode cX12_misses 47 = .ok (.iload 4, 2) by decide +kernel)) rfl
    (sb_cons (pc2 := 52) (sx_cV (Y' := YX12_miss) (q := (RX12, TX12, 69)) rfl (show decode cX12_misses 49 = .ok (.invokevirtual 177, 3) by decide +kernel) rfl rfl (px_w4 wd_740 wd_741 wd_742 wd_719) wd_739 ⟨by decide, by decide, by decide +kernel⟩ (by decide)) rfl
    (sb_cons (pc2 := 53) (sx_i2l (show decode cX12_misses 52 = .ok (.i2l, 1) by decide +kernel)) rfl
    (sb_cons (pc2 := 55) (sx_lstore (show decode cX12_misses 53 = .ok (.lstore 5, 2) by decide +kernel)) rfl
    (sb_cons (pc2 := 56) (sx_lload_n (show decode cX12_misses 55 = .ok (.lload_n 2, 1) by decide +kernel) rfl) rfl
    (sb_cons (pc2 := 58) (sx_lload (show decode cX12_misses 56 = .ok (.lload 5, 2) by decide +kernel)) rfl
    (sb_cons (pc2 := 60) (sx_lload (show decode cX12_misses 58 = .ok (.lload 5, 2) by decide +kernel)) rfl
    (sb_cons (pc2 := 61) (sx_lmul (show decode cX12_misses 60 = .ok (.lmul, 1) by decide +kernel)) rfl
    (sb_cons (pc2 := 62) (sx_ladd (show decode cX12_misses 61 = .ok (.ladd, 1) by decide +kernel)) rfl
    (sb_cons (pc2 := 63) (sx_lstore_n (show decode cX12_misses 62 = .ok (.lstore_n 2, 1) by decide +kernel) rfl) rfl sb_nil)))))))))))
  (ms_cons
  (sb_cons (pc2 := 66) (sx_iinc (show decode cX12_misses 63 = .ok (.iinc 4 1, 3) by decide +kernel) (by decide)) rfl
    (sb_cons (pc2 := 69) (px_snd_goto (show decode cX12_misses 66 = .ok (.goto (-61), 3) by decide +kernel) (by decide)) rfl sb_nil))
  (ms_cons
  (sb_cons (pc2 := 70) (sx_lload_n (show decode cX12_misses 69 = .ok (.lload_n 2, 1) by decide +kernel) rfl) rfl
    (sb_cons (pc2 := 71) (sx_retl (show decode cX12_misses 70 = .ok (.lreturn, 1) by decide +kernel) rfl) rfl sb_nil))
  ms_nil)))))
def kX12_goes (X : px_X) : px_B := [(0, [], [px_aload 0, px_getf 12 3, px_iload 1, px_iald 0, px_istore 3, px_aload 0, px_getf 12 4, px_iload 1, px_iald 0, px_istore 4, px_iload 3, px_istore 5, px_iload 4, px_istore 6, px_aload 0, px_iload 1, px_cV X 175 2 12, px_lstore 7, px_push (.int (-1)), px_istore 9], 32),
  (32, [true, true, true, true, true, true, true, true, false, true, false, false, false], [px_iload 9, px_push (.int 1), px_if2 (fun x y => decide (y < x)) 119, px_push (.int (-1)), px_istore 10], 41),
  (41, [true, true, true, true, true, true, true, true, false, true, true, false, false], [px_iload 10, px_push (.int 1), px_if2 (fun x y => decide (y < x)) 113, px_aload 0, px_getf 12 3, px_iload 1, px_iload 3, px_iload 9, px_iload 2, (px_i2 fun x y => x * y), (px_i2 fun x y => x + y), px_iast 0, px_aload 0, px_getf 12 4, px_iload 1, px_iload 4, px_iload 10, px_iload 2, (px_i2 fun x y => x * y), (px_i2 fun x y => x + y), px_iast 0, px_aload 0, px_iload 1, px_cV X 175 2 12, px_lstore 11, px_lload 11, px_lload 7, px_lcmp, px_if1 (fun x => decide (0 ≤ x)) 107, px_lload 11, px_lstore 7, px_aload 0, px_getf 12 3, px_iload 1, px_iald 0, px_istore 5, px_aload 0, px_getf 12 4, px_iload 1, px_iald 0, px_istore 6], 107),
  (107, [true, true, true, true, true, true, true, true, false, true, true, false, false], [px_iinc 10 1, px_goto 41], 113),
  (113, [true, true, true, true, true, true, true, true, false, true, false, false, false], [px_iinc 9 1, px_goto 32], 119),
  (119, [true, true, false, false, false, true, true, false, false, false, false, false, false], [px_aload 0, px_getf 12 3, px_iload 1, px_iload 5, px_iast 0, px_aload 0, px_getf 12 4, px_iload 1, px_iload 6, px_iast 0, px_retv], 136)]
set_option maxRecDepth 100000 in
set_option maxHeartbeats 8000000 in
theorem sX12_goes (d : Nat) (X : px_X) : px_MS d X YX12_goes (kX12_goes X) :=
  (ms_cons
  (sb_cons (pc2 := 1) (sx_aload_n (show decode cX12_goes 0 = .ok (.aload_n 0, 1) by decide +kernel) rfl) rfl
    (sb_cons (pc2 := 4) (sx_getf (show decode cX12_goes 1 = .ok (.getfield 16, 3) by decide +kernel) rfl iX12 (by decide) wd_673) rfl
    (sb_cons (pc2 := 5) (sx_iload_n (show decode cX12_goes 4 = .ok (.iload_n 1, 1) by decide +kernel) rfl) rfl
    (sb_cons (pc2 := 6) (sx_iald (show decode cX12_goes 5 = .ok (.iaload, 1) by decide +kernel)) rfl
    (sb_cons (pc2 := 7) (sx_istore_n (show decode cX12_goes 6 = .ok (.istore_n 3, 1) by decide +kernel) rfl) rfl
    (sb_cons (pc2 := 8) (sx_aload_n (show decode cX12_goes 7 = .ok (.aload_n 0, 1) by decide +kernel) rfl) rfl
    (sb_cons (pc2 := 11) (sx_getf (show decode cX12_goes 8 = .ok (.getfield 19, 3) by decide +kernel) rfl iX12 (by decide) wd_674) rfl
    (sb_cons (pc2 := 12) (sx_iload_n (show decode cX12_goes 11 = .ok (.iload_n 1, 1) by decide +kernel) rfl) rfl
    (sb_cons (pc2 := 13) (sx_iald (show decode cX12_goes 12 = .ok (.iaload, 1) by decide +kernel)) rfl
    (sb_cons (pc2 := 15) (sx_istore (show decode cX12_goes 13 = .ok (.istore 4, 2) by decide +kernel)) rfl
    (sb_cons (pc2 := 16) (sx_iload_n (show decode cX12_goes 15 = .ok (.iload_n 3, 1) by decide +kernel) rfl) rfl
    (sb_cons (pc2 := 18) (sx_istore (show decode cX12_goes 16 = .ok (.istore 5, 2) by decide +kernel)) rfl
    (sb_cons (pc2 := 20) (sx_iload (show decode cX12_goes 18 = .ok (.iload 4, 2) by decide +kernel)) rfl
    (sb_cons (pc2 := 22) (sx_istore (show decode cX12_goes 20 = .ok (.istore 6, 2) by decide +kernel)) rfl
    (sb_cons (pc2 := 23) (sx_aload_n (show decode cX12_goes 22 = .ok (.aload_n 0, 1) by decide +kernel) rfl) rfl
    (sb_cons (pc2 := 24) (sx_iload_n (show decode cX12_goes 23 = .ok (.iload_n 1, 1) by decide +kernel) rfl) rfl
    (sb_cons (pc2 := 27) (sx_cV (Y' := YX12_misses) (q := (RX12, TX12, 69)) rfl (show decode cX12_goes 24 = .ok (.invokevirtual 180, 3) by decide +kernel) rfl rfl (px_w4 wd_744 wd_745 wd_746 wd_719) wd_743 ⟨by decide, by decide, by decide +kernel⟩ (by decide)) rfl
    (sb_cons (pc2 := 29) (sx_lstore (show decode cX12_goes 27 = .ok (.lstore 7, 2) by decide +kernel)) rfl
    (sb_cons (pc2 := 30) (sx_iconst (show decode cX12_goes 29 = .ok (.iconst (-1), 1) by decide +kernel) (by decide)) rfl
    (sb_cons (pc2 := 32) (sx_istore (show decode cX12_goes 30 = .ok (.istore 9, 2) by decide +kernel)) rfl sb_nil))))))))))))))))))))
  (ms_cons
  (sb_cons (pc2 := 34) (sx_iload (show decode cX12_goes 32 = .ok (.iload 9, 2) by decide +kernel)) rfl
    (sb_cons (pc2 := 35) (sx_iconst (show decode cX12_goes 34 = .ok (.iconst 1, 1) by decide +kernel) (by decide)) rfl
    (sb_cons (pc2 := 38) (sx_icmp_gt (show decode cX12_goes 35 = .ok (.if_icmp .gt 84, 3) by decide +kernel) (by decide)) rfl
    (sb_cons (pc2 := 39) (sx_iconst (show decode cX12_goes 38 = .ok (.iconst (-1), 1) by decide +kernel) (by decide)) rfl
    (sb_cons (pc2 := 41) (sx_istore (show decode cX12_goes 39 = .ok (.istore 10, 2) by decide +kernel)) rfl sb_nil)))))
  (ms_cons
  (sb_cons (pc2 := 43) (sx_iload (show decode cX12_goes 41 = .ok (.iload 10, 2) by decide +kernel)) rfl
    (sb_cons (pc2 := 44) (sx_iconst (show decode cX12_goes 43 = .ok (.iconst 1, 1) by decide +kernel) (by decide)) rfl
    (sb_cons (pc2 := 47) (sx_icmp_gt (show decode cX12_goes 44 = .ok (.if_icmp .gt 69, 3) by decide +kernel) (by decide)) rfl
    (sb_cons (pc2 := 48) (sx_aload_n (show decode cX12_goes 47 = .ok (.aload_n 0, 1) by decide +kernel) rfl) rfl
    (sb_cons (pc2 := 51) (sx_getf (show decode cX12_goes 48 = .ok (.getfield 16, 3) by decide +kernel) rfl iX12 (by decide) wd_673) rfl
    (sb_cons (pc2 := 52) (sx_iload_n (show decode cX12_goes 51 = .ok (.iload_n 1, 1) by decide +kernel) rfl) rfl
    (sb_cons (pc2 := 53) (sx_iload_n (show decode cX12_goes 52 = .ok (.iload_n 3, 1) by decide +kernel) rfl) rfl
    (sb_cons (pc2 := 55) (sx_iload (show decode cX12_goes 53 = .ok (.iload 9, 2) by decide +kernel)) rfl
    (sb_cons (pc2 := 56) (sx_iload_n (show decode cX12_goes 55 = .ok (.iload_n 2, 1) by decide +kernel) rfl) rfl
    (sb_cons (pc2 := 57) (sx_imul (show decode cX12_goes 56 = .ok (.imul, 1) by decide +kernel)) rfl
    (sb_cons (pc2 := 58) (sx_iadd (show decode cX12_goes 57 = .ok (.iadd, 1) by decide +kernel)) rfl
    (sb_cons (pc2 := 59) (sx_iast (show decode cX12_goes 58 = .ok (.iastore, 1) by decide +kernel)) rfl
    (sb_cons (pc2 := 60) (sx_aload_n (show decode cX12_goes 59 = .ok (.aload_n 0, 1) by decide +kernel) rfl) rfl
    (sb_cons (pc2 := 63) (sx_getf (show decode cX12_goes 60 = .ok (.getfield 19, 3) by decide +kernel) rfl iX12 (by decide) wd_674) rfl
    (sb_cons (pc2 := 64) (sx_iload_n (show decode cX12_goes 63 = .ok (.iload_n 1, 1) by decide +kernel) rfl) rfl
    (sb_cons (pc2 := 66) (sx_iload (show decode cX12_goes 64 = .ok (.iload 4, 2) by decide +kernel)) rfl
    (sb_cons (pc2 := 68) (sx_iload (show decode cX12_goes 66 = .ok (.iload 10, 2) by decide +kernel)) rfl
    (sb_cons (pc2 := 69) (sx_iload_n (show decode cX12_goes 68 = .ok (.iload_n 2, 1) by decide +kernel) rfl) rfl
    (sb_cons (pc2 := 70) (sx_imul (show decode cX12_goes 69 = .ok (.imul, 1) by decide +kernel)) rfl
    (sb_cons (pc2 := 71) (sx_iadd (show decode cX12_goes 70 = .ok (.iadd, 1) by decide +kernel)) rfl
    (sb_cons (pc2 := 72) (sx_iast (show decode cX12_goes 71 = .ok (.iastore, 1) by decide +kernel)) rfl
    (sb_cons (pc2 := 73) (sx_aload_n (show decode cX12_goes 72 = .ok (.aload_n 0, 1) by decide +kernel) rfl) rfl
    (sb_cons (pc2 := 74) (sx_iload_n (show decode cX12_goes 73 = .ok (.iload_n 1, 1) by decide +kernel) rfl) rfl
    (sb_cons (pc2 := 77) (sx_cV (Y' := YX12_misses) (q := (RX12, TX12, 69)) rfl (show decode cX12_goes 74 = .ok (.invokevirtual 180, 3) by decide +kernel) rfl rfl (px_w4 wd_744 wd_745 wd_746 wd_719) wd_743 ⟨by decide, by decide, by decide +kernel⟩ (by decide)) rfl
    (sb_cons (pc2 := 79) (sx_lstore (show decode cX12_goes 77 = .ok (.lstore 11, 2) by decide +kernel)) rfl
    (sb_cons (pc2 := 81) (sx_lload (show decode cX12_goes 79 = .ok (.lload 11, 2) by decide +kernel)) rfl
    (sb_cons (pc2 := 83) (sx_lload (show decode cX12_goes 81 = .ok (.lload 7, 2) by decide +kernel)) rfl
    (sb_cons (pc2 := 84) (sx_lcmp (show decode cX12_goes 83 = .ok (.lcmp, 1) by decide +kernel)) rfl
    (sb_cons (pc2 := 87) (sx_if_ge (show decode cX12_goes 84 = .ok (.ifCond .ge 23, 3) by decide +kernel) (by decide)) rfl
    (sb_cons (pc2 := 89) (sx_lload (show decode cX12_goes 87 = .ok (.lload 11, 2) by decide +kernel)) rfl
    (sb_cons (pc2 := 91) (sx_lstore (show decode cX12_goes 89 = .ok (.lstore 7, 2) by decide +kernel)) rfl
    (sb_cons (pc2 := 92) (sx_aload_n (show decode cX12_goes 91 = .ok (.aload_n 0, 1) by decide +kernel) rfl) rfl
    (sb_cons (pc2 := 95) (sx_getf (show decode cX12_goes 92 = .ok (.getfield 16, 3) by decide +kernel) rfl iX12 (by decide) wd_673) rfl
    (sb_cons (pc2 := 96) (sx_iload_n (show decode cX12_goes 95 = .ok (.iload_n 1, 1) by decide +kernel) rfl) rfl
    (sb_cons (pc2 := 97) (sx_iald (show decode cX12_goes 96 = .ok (.iaload, 1) by decide +kernel)) rfl
    (sb_cons (pc2 := 99) (sx_istore (show decode cX12_goes 97 = .ok (.istore 5, 2) by decide +kernel)) rfl
    (sb_cons (pc2 := 100) (sx_aload_n (show decode cX12_goes 99 = .ok (.aload_n 0, 1) by decide +kernel) rfl) rfl
    (sb_cons (pc2 := 103) (sx_getf (show decode cX12_goes 100 = .ok (.getfield 19, 3) by decide +kernel) rfl iX12 (by decide) wd_674) rfl
    (sb_cons (pc2 := 104) (sx_iload_n (show decode cX12_goes 103 = .ok (.iload_n 1, 1) by decide +kernel) rfl) rfl
    (sb_cons (pc2 := 105) (sx_iald (show decode cX12_goes 104 = .ok (.iaload, 1) by decide +kernel)) rfl
    (sb_cons (pc2 := 107) (sx_istore (show decode cX12_goes 105 = .ok (.istore 6, 2) by decide +kernel)) rfl sb_nil)))))))))))))))))))))))))))))))))))))))))
  (ms_cons
  (sb_cons (pc2 := 110) (sx_iinc (show decode cX12_goes 107 = .ok (.iinc 10 1, 3) by decide +kernel) (by decide)) rfl
    (sb_cons (pc2 := 113) (px_snd_goto (show decode cX12_goes 110 = .ok (.goto (-69), 3) by decide +kernel) (by decide)) rfl sb_nil))
  (ms_cons
  (sb_cons (pc2 := 116) (sx_iinc (show decode cX12_goes 113 = .ok (.iinc 9 1, 3) by decide +kernel) (by decide)) rfl
    (sb_cons (pc2 := 119) (px_snd_goto (show decode cX12_goes 116 = .ok (.goto (-84), 3) by decide +kernel) (by decide)) rfl sb_nil))
  (ms_cons
  (sb_cons (pc2 := 120) (sx_aload_n (show decode cX12_goes 119 = .ok (.aload_n 0, 1) by decide +kernel) rfl) rfl
    (sb_cons (pc2 := 123) (sx_getf (show decode cX12_goes 120 = .ok (.getfield 16, 3) by decide +kernel) rfl iX12 (by decide) wd_673) rfl
    (sb_cons (pc2 := 124) (sx_iload_n (show decode cX12_goes 123 = .ok (.iload_n 1, 1) by decide +kernel) rfl) rfl
    (sb_cons (pc2 := 126) (sx_iload (show decode cX12_goes 124 = .ok (.iload 5, 2) by decide +kernel)) rfl
    (sb_cons (pc2 := 127) (sx_iast (show decode cX12_goes 126 = .ok (.iastore, 1) by decide +kernel)) rfl
    (sb_cons (pc2 := 128) (sx_aload_n (show decode cX12_goes 127 = .ok (.aload_n 0, 1) by decide +kernel) rfl) rfl
    (sb_cons (pc2 := 131) (sx_getf (show decode cX12_goes 128 = .ok (.getfield 19, 3) by decide +kernel) rfl iX12 (by decide) wd_674) rfl
    (sb_cons (pc2 := 132) (sx_iload_n (show decode cX12_goes 131 = .ok (.iload_n 1, 1) by decide +kernel) rfl) rfl
    (sb_cons (pc2 := 134) (sx_iload (show decode cX12_goes 132 = .ok (.iload 6, 2) by decide +kernel)) rfl
    (sb_cons (pc2 := 135) (sx_iast (show decode cX12_goes 134 = .ok (.iastore, 1) by decide +kernel)) rfl
    (sb_cons (pc2 := 136) (sx_retv (show decode cX12_goes 135 = .ok (.return_, 1) by decide +kernel) rfl) rfl sb_nil)))))))))))
  ms_nil))))))
def kX12_fits (X : px_X) : px_B := [(0, [], [px_push (.int 0), px_istore 1], 2),
  (2, [true, true, false, false], [px_iload 1, px_aload 0, px_getf 12 0, px_if2 (fun x y => decide (y ≤ x)) 40, px_aload 0, px_getf 12 3, px_iload 1, px_aload 0, px_getf 12 1, px_iload 1, px_iald 0, px_iast 0, px_aload 0, px_getf 12 4, px_iload 1, px_aload 0, px_getf 12 2, px_iload 1, px_iald 0, px_iast 0, px_iinc 1 1, px_goto 2], 40),
  (40, [true, false, false, false], [px_push (.int 512), px_istore 1], 44),
  (44, [true, true, false, false], [px_iload 1, px_if1 (fun x => decide (x ≤ 0)) 99, px_push (.int 0), px_istore 2], 50),
  (50, [true, true, true, false], [px_iload 2, px_push (.int 4), px_if2 (fun x y => decide (y ≤ x)) 92, px_push (.int 0), px_istore 3], 57),
  (57, [true, true, true, true], [px_iload 3, px_aload 0, px_getf 12 0, px_if2 (fun x y => decide (y ≤ x)) 86, px_aload 0, px_getf 12 5, px_iload 3, px_iald 1, px_if1 (fun x => decide (¬ x = 0)) 80, px_aload 0, px_iload 3, px_iload 1, px_cV X 176 3 12], 80),
  (80, [true, true, true, true], [px_iinc 3 1, px_goto 57], 86),
  (86, [true, true, true, false], [px_iinc 2 1, px_goto 50], 92),
  (92, [true, true, false, false], [px_iload 1, px_push (.int 2), (px_i2d fun x y => x / y), px_istore 1, px_goto 44], 99),
  (99, [false, false, false, false], [px_retv], 100)]
set_option maxRecDepth 100000 in
set_option maxHeartbeats 8000000 in
theorem sX12_fits (d : Nat) (X : px_X) : px_MS d X YX12_fits (kX12_fits X) :=
  (ms_cons
  (sb_cons (pc2 := 1) (sx_iconst (show decode cX12_fits 0 = .ok (.iconst 0, 1) by decide +kernel) (by decide)) rfl
    (sb_cons (pc2 := 2) (sx_istore_n (show decode cX12_fits 1 = .ok (.istore_n 1, 1) by decide +kernel) rfl) rfl sb_nil))
  (ms_cons
  (sb_cons (pc2 := 3) (sx_iload_n (show decode cX12_fits 2 = .ok (.iload_n 1, 1) by decide +kernel) rfl) rfl
    (sb_cons (pc2 := 4) (sx_aload_n (show decode cX12_fits 3 = .ok (.aload_n 0, 1) by decide +kernel) rfl) rfl
    (sb_cons (pc2 := 7) (sx_getf (show decode cX12_fits 4 = .ok (.getfield 144, 3) by decide +kernel) rfl iX12 (by decide) wd_715) rfl
    (sb_cons (pc2 := 10) (sx_icmp_ge (show decode cX12_fits 7 = .ok (.if_icmp .ge 33, 3) by decide +kernel) (by decide)) rfl
    (sb_cons (pc2 := 11) (sx_aload_n (show decode cX12_fits 10 = .ok (.aload_n 0, 1) by decide +kernel) rfl) rfl
    (sb_cons (pc2 := 14) (sx_getf (show decode cX12_fits 11 = .ok (.getfield 16, 3) by decide +kernel) rfl iX12 (by decide) wd_673) rfl
    (sb_cons (pc2 := 15) (sx_iload_n (show decode cX12_fits 14 = .ok (.iload_n 1, 1) by decide +kernel) rfl) rfl
    (sb_cons (pc2 := 16) (sx_aload_n (show decode cX12_fits 15 = .ok (.aload_n 0, 1) by decide +kernel) rfl) rfl
    (sb_cons (pc2 := 19) (sx_getf (show decode cX12_fits 16 = .ok (.getfield 7, 3) by decide +kernel) rfl iX12 (by decide) wd_671) rfl
    (sb_cons (pc2 := 20) (sx_iload_n (show decode cX12_fits 19 = .ok (.iload_n 1, 1) by decide +kernel) rfl) rfl
    (sb_cons (pc2 := 21) (sx_iald (show decode cX12_fits 20 = .ok (.iaload, 1) by decide +kernel)) rfl
    (sb_cons (pc2 := 22) (sx_iast (show decode cX12_fits 21 = .ok (.iastore, 1) by decide +kernel)) rfl
    (sb_cons (pc2 := 23) (sx_aload_n (show decode cX12_fits 22 = .ok (.aload_n 0, 1) by decide +kernel) rfl) rfl
    (sb_cons (pc2 := 26) (sx_getf (show decode cX12_fits 23 = .ok (.getfield 19, 3) by decide +kernel) rfl iX12 (by decide) wd_674) rfl
    (sb_cons (pc2 := 27) (sx_iload_n (show decode cX12_fits 26 = .ok (.iload_n 1, 1) by decide +kernel) rfl) rfl
    (sb_cons (pc2 := 28) (sx_aload_n (show decode cX12_fits 27 = .ok (.aload_n 0, 1) by decide +kernel) rfl) rfl
    (sb_cons (pc2 := 31) (sx_getf (show decode cX12_fits 28 = .ok (.getfield 13, 3) by decide +kernel) rfl iX12 (by decide) wd_672) rfl
    (sb_cons (pc2 := 32) (sx_iload_n (show decode cX12_fits 31 = .ok (.iload_n 1, 1) by decide +kernel) rfl) rfl
    (sb_cons (pc2 := 33) (sx_iald (show decode cX12_fits 32 = .ok (.iaload, 1) by decide +kernel)) rfl
    (sb_cons (pc2 := 34) (sx_iast (show decode cX12_fits 33 = .ok (.iastore, 1) by decide +kernel)) rfl
    (sb_cons (pc2 := 37) (sx_iinc (show decode cX12_fits 34 = .ok (.iinc 1 1, 3) by decide +kernel) (by decide)) rfl
    (sb_cons (pc2 := 40) (px_snd_goto (show decode cX12_fits 37 = .ok (.goto (-35), 3) by decide +kernel) (by decide)) rfl sb_nil))))))))))))))))))))))
  (ms_cons
  (sb_cons (pc2 := 43) (sx_sipush (show decode cX12_fits 40 = .ok (.sipush 512, 3) by decide +kernel) (by decide)) rfl
    (sb_cons (pc2 := 44) (sx_istore_n (show decode cX12_fits 43 = .ok (.istore_n 1, 1) by decide +kernel) rfl) rfl sb_nil))
  (ms_cons
  (sb_cons (pc2 := 45) (sx_iload_n (show decode cX12_fits 44 = .ok (.iload_n 1, 1) by decide +kernel) rfl) rfl
    (sb_cons (pc2 := 48) (sx_if_le (show decode cX12_fits 45 = .ok (.ifCond .le 54, 3) by decide +kernel) (by decide)) rfl
    (sb_cons (pc2 := 49) (sx_iconst (show decode cX12_fits 48 = .ok (.iconst 0, 1) by decide +kernel) (by decide)) rfl
    (sb_cons (pc2 := 50) (sx_istore_n (show decode cX12_fits 49 = .ok (.istore_n 2, 1) by decide +kernel) rfl) rfl sb_nil))))
  (ms_cons
  (sb_cons (pc2 := 51) (sx_iload_n (show decode cX12_fits 50 = .ok (.iload_n 2, 1) by decide +kernel) rfl) rfl
    (sb_cons (pc2 := 52) (sx_iconst (show decode cX12_fits 51 = .ok (.iconst 4, 1) by decide +kernel) (by decide)) rfl
    (sb_cons (pc2 := 55) (sx_icmp_ge (show decode cX12_fits 52 = .ok (.if_icmp .ge 40, 3) by decide +kernel) (by decide)) rfl
    (sb_cons (pc2 := 56) (sx_iconst (show decode cX12_fits 55 = .ok (.iconst 0, 1) by decide +kernel) (by decide)) rfl
    (sb_cons (pc2 := 57) (sx_istore_n (show decode cX12_fits 56 = .ok (.istore_n 3, 1) by decide +kernel) rfl) rfl sb_nil)))))
  (ms_cons
  (sb_cons (pc2 := 58) (sx_iload_n (show decode cX12_fits 57 = .ok (.iload_n 3, 1) by decide +kernel) rfl) rfl
    (sb_cons (pc2 := 59) (sx_aload_n (show decode cX12_fits 58 = .ok (.aload_n 0, 1) by decide +kernel) rfl) rfl
    (sb_cons (pc2 := 62) (sx_getf (show decode cX12_fits 59 = .ok (.getfield 144, 3) by decide +kernel) rfl iX12 (by decide) wd_715) rfl
    (sb_cons (pc2 := 65) (sx_icmp_ge (show decode cX12_fits 62 = .ok (.if_icmp .ge 24, 3) by decide +kernel) (by decide)) rfl
    (sb_cons (pc2 := 66) (sx_aload_n (show decode cX12_fits 65 = .ok (.aload_n 0, 1) by decide +kernel) rfl) rfl
    (sb_cons (pc2 := 69) (sx_getf (show decode cX12_fits 66 = .ok (.getfield 22, 3) by decide +kernel) rfl iX12 (by decide) wd_675) rfl
    (sb_cons (pc2 := 70) (sx_iload_n (show decode cX12_fits 69 = .ok (.iload_n 3, 1) by decide +kernel) rfl) rfl
    (sb_cons (pc2 := 71) (sx_zald (show decode cX12_fits 70 = .ok (.baload, 1) by decide +kernel)) rfl
    (sb_cons (pc2 := 74) (sx_if_ne (show decode cX12_fits 71 = .ok (.ifCond .ne 9, 3) by decide +kernel) (by decide)) rfl
    (sb_cons (pc2 := 75) (sx_aload_n (show decode cX12_fits 74 = .ok (.aload_n 0, 1) by decide +kernel) rfl) rfl
    (sb_cons (pc2 := 76) (sx_iload_n (show decode cX12_fits 75 = .ok (.iload_n 3, 1) by decide +kernel) rfl) rfl
    (sb_cons (pc2 := 77) (sx_iload_n (show decode cX12_fits 76 = .ok (.iload_n 1, 1) by decide +kernel) rfl) rfl
    (sb_cons (pc2 := 80) (sx_cV (Y' := YX12_goes) (q := (RX12, TX12, 69)) rfl (show decode cX12_fits 77 = .ok (.invokevirtual 184, 3) by decide +kernel) rfl rfl (px_w4 wd_748 wd_749 wd_750 wd_719) wd_747 ⟨by decide, by decide, by decide +kernel⟩ (by decide)) rfl sb_nil)))))))))))))
  (ms_cons
  (sb_cons (pc2 := 83) (sx_iinc (show decode cX12_fits 80 = .ok (.iinc 3 1, 3) by decide +kernel) (by decide)) rfl
    (sb_cons (pc2 := 86) (px_snd_goto (show decode cX12_fits 83 = .ok (.goto (-26), 3) by decide +kernel) (by decide)) rfl sb_nil))
  (ms_cons
  (sb_cons (pc2 := 89) (sx_iinc (show decode cX12_fits 86 = .ok (.iinc 2 1, 3) by decide +kernel) (by decide)) rfl
    (sb_cons (pc2 := 92) (px_snd_goto (show decode cX12_fits 89 = .ok (.goto (-39), 3) by decide +kernel) (by decide)) rfl sb_nil))
  (ms_cons
  (sb_cons (pc2 := 93) (sx_iload_n (show decode cX12_fits 92 = .ok (.iload_n 1, 1) by decide +kernel) rfl) rfl
    (sb_cons (pc2 := 94) (sx_iconst (show decode cX12_fits 93 = .ok (.iconst 2, 1) by decide +kernel) (by decide)) rfl
    (sb_cons (pc2 := 95) (sx_idiv (show decode cX12_fits 94 = .ok (.idiv, 1) by decide +kernel)) rfl
    (sb_cons (pc2 := 96) (sx_istore_n (show decode cX12_fits 95 = .ok (.istore_n 1, 1) by decide +kernel) rfl) rfl
    (sb_cons (pc2 := 99) (px_snd_goto (show decode cX12_fits 96 = .ok (.goto (-52), 3) by decide +kernel) (by decide)) rfl sb_nil)))))
  (ms_cons
  (sb_cons (pc2 := 100) (sx_retv (show decode cX12_fits 99 = .ok (.return_, 1) by decide +kernel) rfl) rfl sb_nil)
  ms_nil))))))))))
def kX12_knows (X : px_X) : px_B := [(0, [], [px_aload 0, px_getf 12 11, px_if1 (fun x => decide (x = 0)) 8, px_retv], 8),
  (8, [true, false, false, false, false], [px_aload 0, px_push (.int 1), px_putz 12 11, px_push (.int 0), px_istore 1], 15),
  (15, [true, true, false, false, false], [px_iload 1, px_aload 0, px_getf 12 6, px_if2 (fun x y => decide (y ≤ x)) 36, px_aload 0, px_getf 12 10, px_iload 1, px_push (.int 0), px_zast, px_iinc 1 1, px_goto 15], 36),
  (36, [true, false, false, false, false], [px_push (.int 0), px_istore 1], 38),
  (38, [true, true, false, false, false], [px_iload 1, px_push (.int (-1)), px_if2 (fun x y => decide (x = y)) 129, px_aload 0, px_cV X 177 1 12, px_push (.int (-1)), px_istore 1, px_aload 0, px_getf 12 12, px_istore 2, px_push (.int 0), px_istore 3], 56),
  (56, [true, true, true, true, false], [px_iload 3, px_aload 0, px_getf 12 6, px_if2 (fun x y => decide (y ≤ x)) 114, px_aload 0, px_iload 3, px_cV X 174 2 12, px_if1 (fun x => decide (0 ≤ x)) 81, px_aload 0, px_iload 3, px_cV X 174 2 12, (px_i1 fun x => -x), px_goto 86], 81),
  (81, [true, true, true, true, false], [px_aload 0, px_iload 3, px_cV X 174 2 12], 86),
  (86, [true, true, true, true, false], [px_istore 4, px_aload 0, px_getf 12 10, px_iload 3, px_iald 1, px_if1 (fun x => decide (¬ x = 0)) 108, px_iload 4, px_iload 2, px_if2 (fun x y => decide (x ≤ y)) 108, px_iload 4, px_istore 2, px_iload 3, px_istore 1], 108),
  (108, [true, true, true, true, false], [px_iinc 3 1, px_goto 56], 114),
  (114, [true, true, false, false, false], [px_iload 1, px_push (.int (-1)), px_if2 (fun x y => decide (x = y)) 126, px_aload 0, px_getf 12 10, px_iload 1, px_push (.int 1), px_zast], 126),
  (126, [true, true, false, false, false], [px_goto 38], 129),
  (129, [false, false, false, false, false], [px_retv], 130)]
set_option maxRecDepth 100000 in
set_option maxHeartbeats 8000000 in
theorem sX12_knows (d : Nat) (X : px_X) : px_MS d X YX12_knows (kX12_knows X) :=
  (ms_cons
  (sb_cons (pc2 := 1) (sx_aload_n (show decode cX12_knows 0 = .ok (.aload_n 0, 1) by decide +kernel) rfl) rfl
    (sb_cons (pc2 := 4) (sx_getf (show decode cX12_knows 1 = .ok (.getfield 154, 3) by decide +kernel) rfl iX12 (by decide) wd_721) rfl
    (sb_cons (pc2 := 7) (sx_if_eq (show decode cX12_knows 4 = .ok (.ifCond .eq 4, 3) by decide +kernel) (by decide)) rfl
    (sb_cons (pc2 := 8) (sx_retv (show decode cX12_knows 7 = .ok (.return_, 1) by decide +kernel) rfl) rfl sb_nil))))
  (ms_cons
  (sb_cons (pc2 := 9) (sx_aload_n (show decode cX12_knows 8 = .ok (.aload_n 0, 1) by decide +kernel) rfl) rfl
    (sb_cons (pc2 := 10) (sx_iconst (show decode cX12_knows 9 = .ok (.iconst 1, 1) by decide +kernel) (by decide)) rfl
    (sb_cons (pc2 := 13) (sx_putz (show decode cX12_knows 10 = .ok (.putfield 154, 3) by decide +kernel) rfl iX12 tyX12_ok nmX12 (by decide) wd_721 rfl rfl) rfl
    (sb_cons (pc2 := 14) (sx_iconst (show decode cX12_knows 13 = .ok (.iconst 0, 1) by decide +kernel) (by decide)) rfl
    (sb_cons (pc2 := 15) (sx_istore_n (show decode cX12_knows 14 = .ok (.istore_n 1, 1) by decide +kernel) rfl) rfl sb_nil)))))
  (ms_cons
  (sb_cons (pc2 := 16) (sx_iload_n (show decode cX12_knows 15 = .ok (.iload_n 1, 1) by decide +kernel) rfl) rfl
    (sb_cons (pc2 := 17) (sx_aload_n (show decode cX12_knows 16 = .ok (.aload_n 0, 1) by decide +kernel) rfl) rfl
    (sb_cons (pc2 := 20) (sx_getf (show decode cX12_knows 17 = .ok (.getfield 162, 3) by decide +kernel) rfl iX12 (by decide) wd_726) rfl
    (sb_cons (pc2 := 23) (sx_icmp_ge (show decode cX12_knows 20 = .ok (.if_icmp .ge 16, 3) by decide +kernel) (by decide)) rfl
    (sb_cons (pc2 := 24) (sx_aload_n (show decode cX12_knows 23 = .ok (.aload_n 0, 1) by decide +kernel) rfl) rfl
    (sb_cons (pc2 := 27) (sx_getf (show decode cX12_knows 24 = .ok (.getfield 35, 3) by decide +kernel) rfl iX12 (by decide) wd_679) rfl
    (sb_cons (pc2 := 28) (sx_iload_n (show decode cX12_knows 27 = .ok (.iload_n 1, 1) by decide +kernel) rfl) rfl
    (sb_cons (pc2 := 29) (sx_iconst (show decode cX12_knows 28 = .ok (.iconst 0, 1) by decide +kernel) (by decide)) rfl
    (sb_cons (pc2 := 30) (sx_zast (show decode cX12_knows 29 = .ok (.bastore, 1) by decide +kernel)) rfl
    (sb_cons (pc2 := 33) (sx_iinc (show decode cX12_knows 30 = .ok (.iinc 1 1, 3) by decide +kernel) (by decide)) rfl
    (sb_cons (pc2 := 36) (px_snd_goto (show decode cX12_knows 33 = .ok (.goto (-18), 3) by decide +kernel) (by decide)) rfl sb_nil)))))))))))
  (ms_cons
  (sb_cons (pc2 := 37) (sx_iconst (show decode cX12_knows 36 = .ok (.iconst 0, 1) by decide +kernel) (by decide)) rfl
    (sb_cons (pc2 := 38) (sx_istore_n (show decode cX12_knows 37 = .ok (.istore_n 1, 1) by decide +kernel) rfl) rfl sb_nil))
  (ms_cons
  (sb_cons (pc2 := 39) (sx_iload_n (show decode cX12_knows 38 = .ok (.iload_n 1, 1) by decide +kernel) rfl) rfl
    (sb_cons (pc2 := 40) (sx_iconst (show decode cX12_knows 39 = .ok (.iconst (-1), 1) by decide +kernel) (by decide)) rfl
    (sb_cons (pc2 := 43) (sx_icmp_eq (show decode cX12_knows 40 = .ok (.if_icmp .eq 89, 3) by decide +kernel) (by decide)) rfl
    (sb_cons (pc2 := 44) (sx_aload_n (show decode cX12_knows 43 = .ok (.aload_n 0, 1) by decide +kernel) rfl) rfl
    (sb_cons (pc2 := 47) (sx_cV (Y' := YX12_fits) (q := (RX12, TX12, 69)) rfl (show decode cX12_knows 44 = .ok (.invokevirtual 188, 3) by decide +kernel) rfl rfl (px_w4 wd_752 wd_753 wd_754 wd_719) wd_751 ⟨by decide, by decide, by decide +kernel⟩ (by decide)) rfl
    (sb_cons (pc2 := 48) (sx_iconst (show decode cX12_knows 47 = .ok (.iconst (-1), 1) by decide +kernel) (by decide)) rfl
    (sb_cons (pc2 := 49) (sx_istore_n (show decode cX12_knows 48 = .ok (.istore_n 1, 1) by decide +kernel) rfl) rfl
    (sb_cons (pc2 := 50) (sx_aload_n (show decode cX12_knows 49 = .ok (.aload_n 0, 1) by decide +kernel) rfl) rfl
    (sb_cons (pc2 := 53) (sx_getf (show decode cX12_knows 50 = .ok (.getfield 38, 3) by decide +kernel) rfl iX12 (by decide) wd_680) rfl
    (sb_cons (pc2 := 54) (sx_istore_n (show decode cX12_knows 53 = .ok (.istore_n 2, 1) by decide +kernel) rfl) rfl
    (sb_cons (pc2 := 55) (sx_iconst (show decode cX12_knows 54 = .ok (.iconst 0, 1) by decide +kernel) (by decide)) rfl
    (sb_cons (pc2 := 56) (sx_istore_n (show decode cX12_knows 55 = .ok (.istore_n 3, 1) by decide +kernel) rfl) rfl sb_nil))))))))))))
  (ms_cons
  (sb_cons (pc2 := 57) (sx_iload_n (show decode cX12_knows 56 = .ok (.iload_n 3, 1) by decide +kernel) rfl) rfl
    (sb_cons (pc2 := 58) (sx_aload_n (show decode cX12_knows 57 = .ok (.aload_n 0, 1) by decide +kernel) rfl) rfl
    (sb_cons (pc2 := 61) (sx_getf (show decode cX12_knows 58 = .ok (.getfield 162, 3) by decide +kernel) rfl iX12 (by decide) wd_726) rfl
    (sb_cons (pc2 := 64) (sx_icmp_ge (show decode cX12_knows 61 = .ok (.if_icmp .ge 53, 3) by decide +kernel) (by decide)) rfl
    (sb_cons (pc2 := 65) (sx_aload_n (show decode cX12_knows 64 = .ok (.aload_n 0, 1) by decide +kernel) rfl) rfl
    (sb_cons (pc2 := 66) (sx_iload_n (show decode cX12_knows 65 = .ok (.iload_n 3, 1) by decide +kernel) rfl) rfl
    (sb_cons (pc2 := 69) (sx_cV (Y' := YX12_miss) (q := (RX12, TX12, 69)) rfl (show decode cX12_knows 66 = .ok (.invokevirtual 177, 3) by decide +kernel) rfl rfl (px_w4 wd_740 wd_741 wd_742 wd_719) wd_739 ⟨by decide, by decide, by decide +kernel⟩ (by decide)) rfl
    (sb_cons (pc2 := 72) (sx_if_ge (show decode cX12_knows 69 = .ok (.ifCond .ge 12, 3) by decide +kernel) (by decide)) rfl
    (sb_cons (pc2 := 73) (sx_aload_n (show decode cX12_knows 72 = .ok (.aload_n 0, 1) by decide +kernel) rfl) rfl
    (sb_cons (pc2 := 74) (sx_iload_n (show decode cX12_knows 73 = .ok (.iload_n 3, 1) by decide +kernel) rfl) rfl
    (sb_cons (pc2 := 77) (sx_cV (Y' := YX12_miss) (q := (RX12, TX12, 69)) rfl (show decode cX12_knows 74 = .ok (.invokevirtual 177, 3) by decide +kernel) rfl rfl (px_w4 wd_740 wd_741 wd_742 wd_719) wd_739 ⟨by decide, by decide, by decide +kernel⟩ (by decide)) rfl
    (sb_cons (pc2 := 78) (sx_ineg (show decode cX12_knows 77 = .ok (.ineg, 1) by decide +kernel)) rfl
    (sb_cons (pc2 := 81) (px_snd_goto (show decode cX12_knows 78 = .ok (.goto 8, 3) by decide +kernel) (by decide)) rfl sb_nil)))))))))))))
  (ms_cons
  (sb_cons (pc2 := 82) (sx_aload_n (show decode cX12_knows 81 = .ok (.aload_n 0, 1) by decide +kernel) rfl) rfl
    (sb_cons (pc2 := 83) (sx_iload_n (show decode cX12_knows 82 = .ok (.iload_n 3, 1) by decide +kernel) rfl) rfl
    (sb_cons (pc2 := 86) (sx_cV (Y' := YX12_miss) (q := (RX12, TX12, 69)) rfl (show decode cX12_knows 83 = .ok (.invokevirtual 177, 3) by decide +kernel) rfl rfl (px_w4 wd_740 wd_741 wd_742 wd_719) wd_739 ⟨by decide, by decide, by decide +kernel⟩ (by decide)) rfl sb_nil)))
  (ms_cons
  (sb_cons (pc2 := 88) (sx_istore (show decode cX12_knows 86 = .ok (.istore 4, 2) by decide +kernel)) rfl
    (sb_cons (pc2 := 89) (sx_aload_n (show decode cX12_knows 88 = .ok (.aload_n 0, 1) by decide +kernel) rfl) rfl
    (sb_cons (pc2 := 92) (sx_getf (show decode cX12_knows 89 = .ok (.getfield 35, 3) by decide +kernel) rfl iX12 (by decide) wd_679) rfl
    (sb_cons (pc2 := 93) (sx_iload_n (show decode cX12_knows 92 = .ok (.iload_n 3, 1) by decide +kernel) rfl) rfl
    (sb_cons (pc2 := 94) (sx_zald (show decode cX12_knows 93 = .ok (.baload, 1) by decide +kernel)) rfl
    (sb_cons (pc2 := 97) (sx_if_ne (show decode cX12_knows 94 = .ok (.ifCond .ne 14, 3) by decide +kernel) (by decide)) rfl
    (sb_cons (pc2 := 99) (sx_iload (show decode cX12_knows 97 = .ok (.iload 4, 2) by decide +kernel)) rfl
    (sb_cons (pc2 := 100) (sx_iload_n (show decode cX12_knows 99 = .ok (.iload_n 2, 1) by decide +kernel) rfl) rfl
    (sb_cons (pc2 := 103) (sx_icmp_le (show decode cX12_knows 100 = .ok (.if_icmp .le 8, 3) by decide +kernel) (by decide)) rfl
    (sb_cons (pc2 := 105) (sx_iload (show decode cX12_knows 103 = .ok (.iload 4, 2) by decide +kernel)) rfl
    (sb_cons (pc2 := 106) (sx_istore_n (show decode cX12_knows 105 = .ok (.istore_n 2, 1) by decide +kernel) rfl) rfl
    (sb_cons (pc2 := 107) (sx_iload_n (show decode cX12_knows 106 = .ok (.iload_n 3, 1) by decide +kernel) rfl) rfl
    (sb_cons (pc2 := 108) (sx_istore_n (show decode cX12_knows 107 = .ok (.istore_n 1, 1) by decide +kernel) rfl) rfl sb_nil)))))))))))))
  (ms_cons
  (sb_cons (pc2 := 111) (sx_iinc (show decode cX12_knows 108 = .ok (.iinc 3 1, 3) by decide +kernel) (by decide)) rfl
    (sb_cons (pc2 := 114) (px_snd_goto (show decode cX12_knows 111 = .ok (.goto (-55), 3) by decide +kernel) (by decide)) rfl sb_nil))
  (ms_cons
  (sb_cons (pc2 := 115) (sx_iload_n (show decode cX12_knows 114 = .ok (.iload_n 1, 1) by decide +kernel) rfl) rfl
    (sb_cons (pc2 := 116) (sx_iconst (show decode cX12_knows 115 = .ok (.iconst (-1), 1) by decide +kernel) (by decide)) rfl
    (sb_cons (pc2 := 119) (sx_icmp_eq (show decode cX12_knows 116 = .ok (.if_icmp .eq 10, 3) by decide +kernel) (by decide)) rfl
    (sb_cons (pc2 := 120) (sx_aload_n (show decode cX12_knows 119 = .ok (.aload_n 0, 1) by decide +kernel) rfl) rfl
    (sb_cons (pc2 := 123) (sx_getf (show decode cX12_knows 120 = .ok (.getfield 35, 3) by decide +kernel) rfl iX12 (by decide) wd_679) rfl
    (sb_cons (pc2 := 124) (sx_iload_n (show decode cX12_knows 123 = .ok (.iload_n 1, 1) by decide +kernel) rfl) rfl
    (sb_cons (pc2 := 125) (sx_iconst (show decode cX12_knows 124 = .ok (.iconst 1, 1) by decide +kernel) (by decide)) rfl
    (sb_cons (pc2 := 126) (sx_zast (show decode cX12_knows 125 = .ok (.bastore, 1) by decide +kernel)) rfl sb_nil))))))))
  (ms_cons
  (sb_cons (pc2 := 129) (px_snd_goto (show decode cX12_knows 126 = .ok (.goto (-88), 3) by decide +kernel) (by decide)) rfl sb_nil)
  (ms_cons
  (sb_cons (pc2 := 130) (sx_retv (show decode cX12_knows 129 = .ok (.return_, 1) by decide +kernel) rfl) rfl sb_nil)
  ms_nil))))))))))))
def kX12_fit (X : px_X) : px_B := [(0, [], [px_aload 0, px_iload 1, px_cV X 166 2 12, px_if1 (fun x => decide (x = 0)) 17, px_iload 2, px_push (.int 0), px_push (.int 1), px_cS X 165 3, px_if1 (fun x => decide (¬ x = 0)) 21], 17),
  (17, [false, false, false], [px_push (.long (-4611686018427387904)), px_retl], 21),
  (21, [true, true, true], [px_aload 0, px_cV X 178 1 12, px_iload 2, px_if1 (fun x => decide (¬ x = 0)) 39, px_aload 0, px_getf 12 3, px_iload 1, px_iald 0, px_i2l, px_goto 46], 39),
  (39, [true, true, false], [px_aload 0, px_getf 12 4, px_iload 1, px_iald 0, px_i2l], 46),
  (46, [false, false, false], [px_retl], 47)]
set_option maxRecDepth 100000 in
set_option maxHeartbeats 8000000 in
theorem sX12_fit (d : Nat) (X : px_X) : px_MS d X YX12_fit (kX12_fit X) :=
  (ms_cons
  (sb_cons (pc2 := 1) (sx_aload_n (show decode cX12_fit 0 = .ok (.aload_n 0, 1) by decide +kernel) rfl) rfl
    (sb_cons (pc2 := 2) (sx_iload_n (show decode cX12_fit 1 = .ok (.iload_n 1, 1) by decide +kernel) rfl) rfl
    (sb_cons (pc2 := 5) (sx_cV (Y' := YX12_isMark) (q := (RX12, TX12, 69)) rfl (show decode cX12_fit 2 = .ok (.invokevirtual 158, 3) by decide +kernel) rfl rfl (px_w4 wd_723 wd_724 wd_725 wd_719) wd_722 ⟨by decide, by decide, by decide +kernel⟩ (by decide)) rfl
    (sb_cons (pc2 := 8) (sx_if_eq (show decode cX12_fit 5 = .ok (.ifCond .eq 12, 3) by decide +kernel) (by decide)) rfl
    (sb_cons (pc2 := 9) (sx_iload_n (show decode cX12_fit 8 = .ok (.iload_n 2, 1) by decide +kernel) rfl) rfl
    (sb_cons (pc2 := 10) (sx_iconst (show decode cX12_fit 9 = .ok (.iconst 0, 1) by decide +kernel) (by decide)) rfl
    (sb_cons (pc2 := 11) (sx_iconst (show decode cX12_fit 10 = .ok (.iconst 1, 1) by decide +kernel) (by decide)) rfl
    (sb_cons (pc2 := 14) (sx_cS (Y' := YX12_in) rfl (show decode cX12_fit 11 = .ok (.invokestatic 147, 3) by decide +kernel) rfl (px_w3 wd_717 wd_718 wd_719) wd_716 ⟨by decide, by decide, by decide +kernel⟩ (by decide)) rfl
    (sb_cons (pc2 := 17) (sx_if_ne (show decode cX12_fit 14 = .ok (.ifCond .ne 7, 3) by decide +kernel) (by decide)) rfl sb_nil)))))))))
  (ms_cons
  (sb_cons (pc2 := 20) (sx_ldc2 (show decode cX12_fit 17 = .ok (.ldc2_w 191, 3) by decide +kernel) wd_755) rfl
    (sb_cons (pc2 := 21) (sx_retl (show decode cX12_fit 20 = .ok (.lreturn, 1) by decide +kernel) rfl) rfl sb_nil))
  (ms_cons
  (sb_cons (pc2 := 22) (sx_aload_n (show decode cX12_fit 21 = .ok (.aload_n 0, 1) by decide +kernel) rfl) rfl
    (sb_cons (pc2 := 25) (sx_cV (Y' := YX12_knows) (q := (RX12, TX12, 69)) rfl (show decode cX12_fit 22 = .ok (.invokevirtual 193, 3) by decide +kernel) rfl rfl (px_w4 wd_757 wd_758 wd_759 wd_719) wd_756 ⟨by decide, by decide, by decide +kernel⟩ (by decide)) rfl
    (sb_cons (pc2 := 26) (sx_iload_n (show decode cX12_fit 25 = .ok (.iload_n 2, 1) by decide +kernel) rfl) rfl
    (sb_cons (pc2 := 29) (sx_if_ne (show decode cX12_fit 26 = .ok (.ifCond .ne 13, 3) by decide +kernel) (by decide)) rfl
    (sb_cons (pc2 := 30) (sx_aload_n (show decode cX12_fit 29 = .ok (.aload_n 0, 1) by decide +kernel) rfl) rfl
    (sb_cons (pc2 := 33) (sx_getf (show decode cX12_fit 30 = .ok (.getfield 16, 3) by decide +kernel) rfl iX12 (by decide) wd_673) rfl
    (sb_cons (pc2 := 34) (sx_iload_n (show decode cX12_fit 33 = .ok (.iload_n 1, 1) by decide +kernel) rfl) rfl
    (sb_cons (pc2 := 35) (sx_iald (show decode cX12_fit 34 = .ok (.iaload, 1) by decide +kernel)) rfl
    (sb_cons (pc2 := 36) (sx_i2l (show decode cX12_fit 35 = .ok (.i2l, 1) by decide +kernel)) rfl
    (sb_cons (pc2 := 39) (px_snd_goto (show decode cX12_fit 36 = .ok (.goto 10, 3) by decide +kernel) (by decide)) rfl sb_nil))))))))))
  (ms_cons
  (sb_cons (pc2 := 40) (sx_aload_n (show decode cX12_fit 39 = .ok (.aload_n 0, 1) by decide +kernel) rfl) rfl
    (sb_cons (pc2 := 43) (sx_getf (show decode cX12_fit 40 = .ok (.getfield 19, 3) by decide +kernel) rfl iX12 (by decide) wd_674) rfl
    (sb_cons (pc2 := 44) (sx_iload_n (show decode cX12_fit 43 = .ok (.iload_n 1, 1) by decide +kernel) rfl) rfl
    (sb_cons (pc2 := 45) (sx_iald (show decode cX12_fit 44 = .ok (.iaload, 1) by decide +kernel)) rfl
    (sb_cons (pc2 := 46) (sx_i2l (show decode cX12_fit 45 = .ok (.i2l, 1) by decide +kernel)) rfl sb_nil)))))
  (ms_cons
  (sb_cons (pc2 := 47) (sx_retl (show decode cX12_fit 46 = .ok (.lreturn, 1) by decide +kernel) rfl) rfl sb_nil)
  ms_nil)))))
def kX12_tapeTold (X : px_X) : px_B := [(0, [], [px_iload 1, px_push (.int 0), px_aload 0, px_getf 12 6, px_push (.int 1), (px_i2 fun x y => x - y), px_cS X 165 3, px_if1 (fun x => decide (x = 0)) 23, px_iload 2, px_push (.int 0), px_push (.int 4), px_cS X 165 3, px_if1 (fun x => decide (¬ x = 0)) 27], 23),
  (23, [false, false, false], [px_push (.long (-4611686018427387904)), px_retl], 27),
  (27, [true, true, true], [px_aload 0, px_cV X 178 1 12, px_iload 2, px_sw [(0, 64), (1, 72), (2, 80), (3, 88)] 103], 64),
  (64, [true, true, false], [px_aload 0, px_getf 12 7, px_iload 1, px_iald 0, px_i2l, px_retl], 72),
  (72, [true, true, false], [px_aload 0, px_getf 12 8, px_iload 1, px_iald 0, px_i2l, px_retl], 80),
  (80, [true, true, false], [px_aload 0, px_getf 12 9, px_iload 1, px_iald 0, px_i2l, px_retl], 88),
  (88, [true, true, false], [px_aload 0, px_getf 12 10, px_iload 1, px_iald 1, px_if1 (fun x => decide (x = 0)) 101, px_push (.long 1), px_goto 102], 101),
  (101, [false, false, false], [px_push (.long 0)], 102),
  (102, [false, false, false], [px_retl], 103),
  (103, [true, true, false], [px_aload 0, px_iload 1, px_cV X 174 2 12, px_i2l, px_retl], 110)]
set_option maxRecDepth 100000 in
set_option maxHeartbeats 8000000 in
theorem sX12_tapeTold (d : Nat) (X : px_X) : px_MS d X YX12_tapeTold (kX12_tapeTold X) :=
  (ms_cons
  (sb_cons (pc2 := 1) (sx_iload_n (show decode cX12_tapeTold 0 = .ok (.iload_n 1, 1) by decide +kernel) rfl) rfl
    (sb_cons (pc2 := 2) (sx_iconst (show decode cX12_tapeTold 1 = .ok (.iconst 0, 1) by decide +kernel) (by decide)) rfl
    (sb_cons (pc2 := 3) (sx_aload_n (show decode cX12_tapeTold 2 = .ok (.aload_n 0, 1) by decide +kernel) rfl) rfl
    (sb_cons (pc2 := 6) (sx_getf (show decode cX12_tapeTold 3 = .ok (.getfield 162, 3) by decide +kernel) rfl iX12 (by decide) wd_726) rfl
    (sb_cons (pc2 := 7) (sx_iconst (show decode cX12_tapeTold 6 = .ok (.iconst 1, 1) by decide +kernel) (by decide)) rfl
    (sb_cons (pc2 := 8) (sx_isub (show decode cX12_tapeTold 7 = .ok (.isub, 1) by decide +kernel)) rfl
    (sb_cons (pc2 := 11) (sx_cS (Y' := YX12_in) rfl (show decode cX12_tapeTold 8 = .ok (.invokestatic 147, 3) by decide +kernel) rfl (px_w3 wd_717 wd_718 wd_719) wd_716 ⟨by decide, by decide, by decide +kernel⟩ (by decide)) rfl
    (sb_cons (pc2 := 14) (sx_if_eq (show decode cX12_tapeTold 11 = .ok (.ifCond .eq 12, 3) by decide +kernel) (by decide)) rfl
    (sb_cons (pc2 := 15) (sx_iload_n (show decode cX12_tapeTold 14 = .ok (.iload_n 2, 1) by decide +kernel) rfl) rfl
    (sb_cons (pc2 := 16) (sx_iconst (show decode cX12_tapeTold 15 = .ok (.iconst 0, 1) by decide +kernel) (by decide)) rfl
    (sb_cons (pc2 := 17) (sx_iconst (show decode cX12_tapeTold 16 = .ok (.iconst 4, 1) by decide +kernel) (by decide)) rfl
    (sb_cons (pc2 := 20) (sx_cS (Y' := YX12_in) rfl (show decode cX12_tapeTold 17 = .ok (.invokestatic 147, 3) by decide +kernel) rfl (px_w3 wd_717 wd_718 wd_719) wd_716 ⟨by decide, by decide, by decide +kernel⟩ (by decide)) rfl
    (sb_cons (pc2 := 23) (sx_if_ne (show decode cX12_tapeTold 20 = .ok (.ifCond .ne 7, 3) by decide +kernel) (by decide)) rfl sb_nil)))))))))))))
  (ms_cons
  (sb_cons (pc2 := 26) (sx_ldc2 (show decode cX12_tapeTold 23 = .ok (.ldc2_w 191, 3) by decide +kernel) wd_755) rfl
    (sb_cons (pc2 := 27) (sx_retl (show decode cX12_tapeTold 26 = .ok (.lreturn, 1) by decide +kernel) rfl) rfl sb_nil))
  (ms_cons
  (sb_cons (pc2 := 28) (sx_aload_n (show decode cX12_tapeTold 27 = .ok (.aload_n 0, 1) by decide +kernel) rfl) rfl
    (sb_cons (pc2 := 31) (sx_cV (Y' := YX12_knows) (q := (RX12, TX12, 69)) rfl (show decode cX12_tapeTold 28 = .ok (.invokevirtual 193, 3) by decide +kernel) rfl rfl (px_w4 wd_757 wd_758 wd_759 wd_719) wd_756 ⟨by decide, by decide, by decide +kernel⟩ (by decide)) rfl
    (sb_cons (pc2 := 32) (sx_iload_n (show decode cX12_tapeTold 31 = .ok (.iload_n 2, 1) by decide +kernel) rfl) rfl
    (sb_cons (pc2 := 64) (sx_tsw (show decode cX12_tapeTold 32 = .ok (.tableswitch 71 0 3 #[32, 40, 48, 56], 32) by decide +kernel) (by decide) (by decide +kernel) (by decide +kernel)) rfl sb_nil))))
  (ms_cons
  (sb_cons (pc2 := 65) (sx_aload_n (show decode cX12_tapeTold 64 = .ok (.aload_n 0, 1) by decide +kernel) rfl) rfl
    (sb_cons (pc2 := 68) (sx_getf (show decode cX12_tapeTold 65 = .ok (.getfield 26, 3) by decide +kernel) rfl iX12 (by decide) wd_676) rfl
    (sb_cons (pc2 := 69) (sx_iload_n (show decode cX12_tapeTold 68 = .ok (.iload_n 1, 1) by decide +kernel) rfl) rfl
    (sb_cons (pc2 := 70) (sx_iald (show decode cX12_tapeTold 69 = .ok (.iaload, 1) by decide +kernel)) rfl
    (sb_cons (pc2 := 71) (sx_i2l (show decode cX12_tapeTold 70 = .ok (.i2l, 1) by decide +kernel)) rfl
    (sb_cons (pc2 := 72) (sx_retl (show decode cX12_tapeTold 71 = .ok (.lreturn, 1) by decide +kernel) rfl) rfl sb_nil))))))
  (ms_cons
  (sb_cons (pc2 := 73) (sx_aload_n (show decode cX12_tapeTold 72 = .ok (.aload_n 0, 1) by decide +kernel) rfl) rfl
    (sb_cons (pc2 := 76) (sx_getf (show decode cX12_tapeTold 73 = .ok (.getfield 29, 3) by decide +kernel) rfl iX12 (by decide) wd_677) rfl
    (sb_cons (pc2 := 77) (sx_iload_n (show decode cX12_tapeTold 76 = .ok (.iload_n 1, 1) by decide +kernel) rfl) rfl
    (sb_cons (pc2 := 78) (sx_iald (show decode cX12_tapeTold 77 = .ok (.iaload, 1) by decide +kernel)) rfl
    (sb_cons (pc2 := 79) (sx_i2l (show decode cX12_tapeTold 78 = .ok (.i2l, 1) by decide +kernel)) rfl
    (sb_cons (pc2 := 80) (sx_retl (show decode cX12_tapeTold 79 = .ok (.lreturn, 1) by decide +kernel) rfl) rfl sb_nil))))))
  (ms_cons
  (sb_cons (pc2 := 81) (sx_aload_n (show decode cX12_tapeTold 80 = .ok (.aload_n 0, 1) by decide +kernel) rfl) rfl
    (sb_cons (pc2 := 84) (sx_getf (show decode cX12_tapeTold 81 = .ok (.getfield 32, 3) by decide +kernel) rfl iX12 (by decide) wd_678) rfl
    (sb_cons (pc2 := 85) (sx_iload_n (show decode cX12_tapeTold 84 = .ok (.iload_n 1, 1) by decide +kernel) rfl) rfl
    (sb_cons (pc2 := 86) (sx_iald (show decode cX12_tapeTold 85 = .ok (.iaload, 1) by decide +kernel)) rfl
    (sb_cons (pc2 := 87) (sx_i2l (show decode cX12_tapeTold 86 = .ok (.i2l, 1) by decide +kernel)) rfl
    (sb_cons (pc2 := 88) (sx_retl (show decode cX12_tapeTold 87 = .ok (.lreturn, 1) by decide +kernel) rfl) rfl sb_nil))))))
  (ms_cons
  (sb_cons (pc2 := 89) (sx_aload_n (show decode cX12_tapeTold 88 = .ok (.aload_n 0, 1) by decide +kernel) rfl) rfl
    (sb_cons (pc2 := 92) (sx_getf (show decode cX12_tapeTold 89 = .ok (.getfield 35, 3) by decide +kernel) rfl iX12 (by decide) wd_679) rfl
    (sb_cons (pc2 := 93) (sx_iload_n (show decode cX12_tapeTold 92 = .ok (.iload_n 1, 1) by decide +kernel) rfl) rfl
    (sb_cons (pc2 := 94) (sx_zald (show decode cX12_tapeTold 93 = .ok (.baload, 1) by decide +kernel)) rfl
    (sb_cons (pc2 := 97) (sx_if_eq (show decode cX12_tapeTold 94 = .ok (.ifCond .eq 7, 3) by decide +kernel) (by decide)) rfl
    (sb_cons (pc2 := 98) (sx_lconst (show decode cX12_tapeTold 97 = .ok (.lconst 1, 1) by decide +kernel) (by decide)) rfl
    (sb_cons (pc2 := 101) (px_snd_goto (show decode cX12_tapeTold 98 = .ok (.goto 4, 3) by decide +kernel) (by decide)) rfl sb_nil)))))))
  (ms_cons
  (sb_cons (pc2 := 102) (sx_lconst (show decode cX12_tapeTold 101 = .ok (.lconst 0, 1) by decide +kernel) (by decide)) rfl sb_nil)
  (ms_cons
  (sb_cons (pc2 := 103) (sx_retl (show decode cX12_tapeTold 102 = .ok (.lreturn, 1) by decide +kernel) rfl) rfl sb_nil)
  (ms_cons
  (sb_cons (pc2 := 104) (sx_aload_n (show decode cX12_tapeTold 103 = .ok (.aload_n 0, 1) by decide +kernel) rfl) rfl
    (sb_cons (pc2 := 105) (sx_iload_n (show decode cX12_tapeTold 104 = .ok (.iload_n 1, 1) by decide +kernel) rfl) rfl
    (sb_cons (pc2 := 108) (sx_cV (Y' := YX12_miss) (q := (RX12, TX12, 69)) rfl (show decode cX12_tapeTold 105 = .ok (.invokevirtual 177, 3) by decide +kernel) rfl rfl (px_w4 wd_740 wd_741 wd_742 wd_719) wd_739 ⟨by decide, by decide, by decide +kernel⟩ (by decide)) rfl
    (sb_cons (pc2 := 109) (sx_i2l (show decode cX12_tapeTold 108 = .ok (.i2l, 1) by decide +kernel)) rfl
    (sb_cons (pc2 := 110) (sx_retl (show decode cX12_tapeTold 109 = .ok (.lreturn, 1) by decide +kernel) rfl) rfl sb_nil)))))
  ms_nil))))))))))
def kX12_sum (X : px_X) : px_B := [(0, [], [px_aload 0, px_cV X 178 1 12, px_push (.long 0), px_lstore 1, px_push (.int 0), px_istore 3], 8),
  (8, [true, true, false, true, false, false], [px_iload 3, px_aload 0, px_getf 12 6, px_if2 (fun x y => decide (y ≤ x)) 51, px_aload 0, px_getf 12 10, px_iload 3, px_iald 1, px_if1 (fun x => decide (x = 0)) 29, px_push (.long 0), px_goto 35], 29),
  (29, [true, true, false, true, false, false], [px_aload 0, px_iload 3, px_cV X 174 2 12, px_i2l], 35),
  (35, [true, true, false, true, false, false], [px_lstore 4, px_lload 1, px_lload 4, px_lload 4, (px_l2 fun x y => x * y), (px_l2 fun x y => x + y), px_lstore 1, px_iinc 3 1, px_goto 8], 51),
  (51, [false, true, false, false, false, false], [px_lload 1, px_retl], 53)]
set_option maxRecDepth 100000 in
set_option maxHeartbeats 8000000 in
theorem sX12_sum (d : Nat) (X : px_X) : px_MS d X YX12_sum (kX12_sum X) :=
  (ms_cons
  (sb_cons (pc2 := 1) (sx_aload_n (show decode cX12_sum 0 = .ok (.aload_n 0, 1) by decide +kernel) rfl) rfl
    (sb_cons (pc2 := 4) (sx_cV (Y' := YX12_knows) (q := (RX12, TX12, 69)) rfl (show decode cX12_sum 1 = .ok (.invokevirtual 193, 3) by decide +kernel) rfl rfl (px_w4 wd_757 wd_758 wd_759 wd_719) wd_756 ⟨by decide, by decide, by decide +kernel⟩ (by decide)) rfl
    (sb_cons (pc2 := 5) (sx_lconst (show decode cX12_sum 4 = .ok (.lconst 0, 1) by decide +kernel) (by decide)) rfl
    (sb_cons (pc2 := 6) (sx_lstore_n (show decode cX12_sum 5 = .ok (.lstore_n 1, 1) by decide +kernel) rfl) rfl
    (sb_cons (pc2 := 7) (sx_iconst (show decode cX12_sum 6 = .ok (.iconst 0, 1) by decide +kernel) (by decide)) rfl
    (sb_cons (pc2 := 8) (sx_istore_n (show decode cX12_sum 7 = .ok (.istore_n 3, 1) by decide +kernel) rfl) rfl sb_nil))))))
  (ms_cons
  (sb_cons (pc2 := 9) (sx_iload_n (show decode cX12_sum 8 = .ok (.iload_n 3, 1) by decide +kernel) rfl) rfl
    (sb_cons (pc2 := 10) (sx_aload_n (show decode cX12_sum 9 = .ok (.aload_n 0, 1) by decide +kernel) rfl) rfl
    (sb_cons (pc2 := 13) (sx_getf (show decode cX12_sum 10 = .ok (.getfield 162, 3) by decide +kernel) rfl iX12 (by decide) wd_726) rfl
    (sb_cons (pc2 := 16) (sx_icmp_ge (show decode cX12_sum 13 = .ok (.if_icmp .ge 38, 3) by decide +kernel) (by decide)) rfl
    (sb_cons (pc2 := 17) (sx_aload_n (show decode cX12_sum 16 = .ok (.aload_n 0, 1) by decide +kernel) rfl) rfl
    (sb_cons (pc2 := 20) (sx_getf (show decode cX12_sum 17 = .ok (.getfield 35, 3) by decide +kernel) rfl iX12 (by decide) wd_679) rfl
    (sb_cons (pc2 := 21) (sx_iload_n (show decode cX12_sum 20 = .ok (.iload_n 3, 1) by decide +kernel) rfl) rfl
    (sb_cons (pc2 := 22) (sx_zald (show decode cX12_sum 21 = .ok (.baload, 1) by decide +kernel)) rfl
    (sb_cons (pc2 := 25) (sx_if_eq (show decode cX12_sum 22 = .ok (.ifCond .eq 7, 3) by decide +kernel) (by decide)) rfl
    (sb_cons (pc2 := 26) (sx_lconst (show decode cX12_sum 25 = .ok (.lconst 0, 1) by decide +kernel) (by decide)) rfl
    (sb_cons (pc2 := 29) (px_snd_goto (show decode cX12_sum 26 = .ok (.goto 9, 3) by decide +kernel) (by decide)) rfl sb_nil)))))))))))
  (ms_cons
  (sb_cons (pc2 := 30) (sx_aload_n (show decode cX12_sum 29 = .ok (.aload_n 0, 1) by decide +kernel) rfl) rfl
    (sb_cons (pc2 := 31) (sx_iload_n (show decode cX12_sum 30 = .ok (.iload_n 3, 1) by decide +kernel) rfl) rfl
    (sb_cons (pc2 := 34) (sx_cV (Y' := YX12_miss) (q := (RX12, TX12, 69)) rfl (show decode cX12_sum 31 = .ok (.invokevirtual 177, 3) by decide +kernel) rfl rfl (px_w4 wd_740 wd_741 wd_742 wd_719) wd_739 ⟨by decide, by decide, by decide +kernel⟩ (by decide)) rfl
    (sb_cons (pc2 := 35) (sx_i2l (show decode cX12_sum 34 = .ok (.i2l, 1) by decide +kernel)) rfl sb_nil))))
  (ms_cons
  (sb_cons (pc2 := 37) (sx_lstore (show decode cX12_sum 35 = .ok (.lstore 4, 2) by decide +kernel)) rfl
    (sb_cons (pc2 := 38) (sx_lload_n (show decode cX12_sum 37 = .ok (.lload_n 1, 1) by decide +kernel) rfl) rfl
    (sb_cons (pc2 := 40) (sx_lload (show decode cX12_sum 38 = .ok (.lload 4, 2) by decide +kernel)) rfl
    (sb_cons (pc2 := 42) (sx_lload (show decode cX12_sum 40 = .ok (.lload 4, 2) by decide +kernel)) rfl
    (sb_cons (pc2 := 43) (sx_lmul (show decode cX12_sum 42 = .ok (.lmul, 1) by decide +kernel)) rfl
    (sb_cons (pc2 := 44) (sx_ladd (show decode cX12_sum 43 = .ok (.ladd, 1) by decide +kernel)) rfl
    (sb_cons (pc2 := 45) (sx_lstore_n (show decode cX12_sum 44 = .ok (.lstore_n 1, 1) by decide +kernel) rfl) rfl
    (sb_cons (pc2 := 48) (sx_iinc (show decode cX12_sum 45 = .ok (.iinc 3 1, 3) by decide +kernel) (by decide)) rfl
    (sb_cons (pc2 := 51) (px_snd_goto (show decode cX12_sum 48 = .ok (.goto (-40), 3) by decide +kernel) (by decide)) rfl sb_nil)))))))))
  (ms_cons
  (sb_cons (pc2 := 52) (sx_lload_n (show decode cX12_sum 51 = .ok (.lload_n 1, 1) by decide +kernel) rfl) rfl
    (sb_cons (pc2 := 53) (sx_retl (show decode cX12_sum 52 = .ok (.lreturn, 1) by decide +kernel) rfl) rfl sb_nil))
  ms_nil)))))
def kX12_find (X : px_X) : px_B := [(0, [], [px_iload 1, px_push (.int 0), px_push (.int 5), px_cS X 165 3, px_if1 (fun x => decide (x = 0)) 39, px_iload 2, px_push (.int 0), px_push (.int 99), px_cS X 165 3, px_if1 (fun x => decide (x = 0)) 39, px_iload 3, px_push (.int 0), px_push (.int 3), px_cS X 165 3, px_if1 (fun x => decide (x = 0)) 39, px_iload 4, px_push (.int 1), px_push (.int 9), px_cS X 165 3, px_if1 (fun x => decide (¬ x = 0)) 42], 39),
  (39, [false, false, false, false, false], [px_push (.int (-2)), px_reti], 42),
  (42, [true, true, true, true, true], [px_aload 0, px_getf 12 13, px_push (.int 20), px_if2 (fun x y => decide (¬ x = y)) 54, px_push (.int (-4)), px_reti], 54),
  (54, [true, true, true, true, true], [px_aload 0, px_getf 12 14, px_aload 0, px_getf 12 13, px_iload 1, px_iast 0, px_aload 0, px_getf 12 15, px_aload 0, px_getf 12 13, px_iload 2, px_iast 0, px_aload 0, px_getf 12 16, px_aload 0, px_getf 12 13, px_iload 3, px_iast 0, px_aload 0, px_getf 12 17, px_aload 0, px_getf 12 13, px_iload 4, px_iast 0, px_aload 0, px_getf 12 20, px_aload 0, px_getf 12 13, px_push (.int (-1)), px_iast 0, px_aload 0, px_dup, px_getf 12 13, px_push (.int 1), (px_i2 fun x y => x + y), px_puti 12 13, px_aload 0, px_getf 12 13, px_push (.int 1), (px_i2 fun x y => x - y), px_reti], 122)]
set_option maxRecDepth 100000 in
set_option maxHeartbeats 8000000 in
theorem sX12_find (d : Nat) (X : px_X) : px_MS d X YX12_find (kX12_find X) :=
  (ms_cons
  (sb_cons (pc2 := 1) (sx_iload_n (show decode cX12_find 0 = .ok (.iload_n 1, 1) by decide +kernel) rfl) rfl
    (sb_cons (pc2 := 2) (sx_iconst (show decode cX12_find 1 = .ok (.iconst 0, 1) by decide +kernel) (by decide)) rfl
    (sb_cons (pc2 := 3) (sx_iconst (show decode cX12_find 2 = .ok (.iconst 5, 1) by decide +kernel) (by decide)) rfl
    (sb_cons (pc2 := 6) (sx_cS (Y' := YX12_in) rfl (show decode cX12_find 3 = .ok (.invokestatic 147, 3) by decide +kernel) rfl (px_w3 wd_717 wd_718 wd_719) wd_716 ⟨by decide, by decide, by decide +kernel⟩ (by decide)) rfl
    (sb_cons (pc2 := 9) (sx_if_eq (show decode cX12_find 6 = .ok (.ifCond .eq 33, 3) by decide +kernel) (by decide)) rfl
    (sb_cons (pc2 := 10) (sx_iload_n (show decode cX12_find 9 = .ok (.iload_n 2, 1) by decide +kernel) rfl) rfl
    (sb_cons (pc2 := 11) (sx_iconst (show decode cX12_find 10 = .ok (.iconst 0, 1) by decide +kernel) (by decide)) rfl
    (sb_cons (pc2 := 13) (sx_bipush (show decode cX12_find 11 = .ok (.bipush 99, 2) by decide +kernel) (by decide)) rfl
    (sb_cons (pc2 := 16) (sx_cS (Y' := YX12_in) rfl (show decode cX12_find 13 = .ok (.invokestatic 147, 3) by decide +kernel) rfl (px_w3 wd_717 wd_718 wd_719) wd_716 ⟨by decide, by decide, by decide +kernel⟩ (by decide)) rfl
    (sb_cons (pc2 := 19) (sx_if_eq (show decode cX12_find 16 = .ok (.ifCond .eq 23, 3) by decide +kernel) (by decide)) rfl
    (sb_cons (pc2 := 20) (sx_iload_n (show decode cX12_find 19 = .ok (.iload_n 3, 1) by decide +kernel) rfl) rfl
    (sb_cons (pc2 := 21) (sx_iconst (show decode cX12_find 20 = .ok (.iconst 0, 1) by decide +kernel) (by decide)) rfl
    (sb_cons (pc2 := 22) (sx_iconst (show decode cX12_find 21 = .ok (.iconst 3, 1) by decide +kernel) (by decide)) rfl
    (sb_cons (pc2 := 25) (sx_cS (Y' := YX12_in) rfl (show decode cX12_find 22 = .ok (.invokestatic 147, 3) by decide +kernel) rfl (px_w3 wd_717 wd_718 wd_719) wd_716 ⟨by decide, by decide, by decide +kernel⟩ (by decide)) rfl
    (sb_cons (pc2 := 28) (sx_if_eq (show decode cX12_find 25 = .ok (.ifCond .eq 14, 3) by decide +kernel) (by decide)) rfl
    (sb_cons (pc2 := 30) (sx_iload (show decode cX12_find 28 = .ok (.iload 4, 2) by decide +kernel)) rfl
    (sb_cons (pc2 := 31) (sx_iconst (show decode cX12_find 30 = .ok (.iconst 1, 1) by decide +kernel) (by decide)) rfl
    (sb_cons (pc2 := 33) (sx_bipush (show decode cX12_find 31 = .ok (.bipush 9, 2) by decide +kernel) (by decide)) rfl
    (sb_cons (pc2 := 36) (sx_cS (Y' := YX12_in) rfl (show decode cX12_find 33 = .ok (.invokestatic 147, 3) by decide +kernel) rfl (px_w3 wd_717 wd_718 wd_719) wd_716 ⟨by decide, by decide, by decide +kernel⟩ (by decide)) rfl
    (sb_cons (pc2 := 39) (sx_if_ne (show decode cX12_find 36 = .ok (.ifCond .ne 6, 3) by decide +kernel) (by decide)) rfl sb_nil))))))))))))))))))))
  (ms_cons
  (sb_cons (pc2 := 41) (sx_bipush (show decode cX12_find 39 = .ok (.bipush (-2), 2) by decide +kernel) (by decide)) rfl
    (sb_cons (pc2 := 42) (sx_reti (show decode cX12_find 41 = .ok (.ireturn, 1) by decide +kernel) rfl) rfl sb_nil))
  (ms_cons
  (sb_cons (pc2 := 43) (sx_aload_n (show decode cX12_find 42 = .ok (.aload_n 0, 1) by decide +kernel) rfl) rfl
    (sb_cons (pc2 := 46) (sx_getf (show decode cX12_find 43 = .ok (.getfield 151, 3) by decide +kernel) rfl iX12 (by decide) wd_720) rfl
    (sb_cons (pc2 := 48) (sx_bipush (show decode cX12_find 46 = .ok (.bipush 20, 2) by decide +kernel) (by decide)) rfl
    (sb_cons (pc2 := 51) (sx_icmp_ne (show decode cX12_find 48 = .ok (.if_icmp .ne 6, 3) by decide +kernel) (by decide)) rfl
    (sb_cons (pc2 := 53) (sx_bipush (show decode cX12_find 51 = .ok (.bipush (-4), 2) by decide +kernel) (by decide)) rfl
    (sb_cons (pc2 := 54) (sx_reti (show decode cX12_find 53 = .ok (.ireturn, 1) by decide +kernel) rfl) rfl sb_nil))))))
  (ms_cons
  (sb_cons (pc2 := 55) (sx_aload_n (show decode cX12_find 54 = .ok (.aload_n 0, 1) by decide +kernel) rfl) rfl
    (sb_cons (pc2 := 58) (sx_getf (show decode cX12_find 55 = .ok (.getfield 42, 3) by decide +kernel) rfl iX12 (by decide) wd_681) rfl
    (sb_cons (pc2 := 59) (sx_aload_n (show decode cX12_find 58 = .ok (.aload_n 0, 1) by decide +kernel) rfl) rfl
    (sb_cons (pc2 := 62) (sx_getf (show decode cX12_find 59 = .ok (.getfield 151, 3) by decide +kernel) rfl iX12 (by decide) wd_720) rfl
    (sb_cons (pc2 := 63) (sx_iload_n (show decode cX12_find 62 = .ok (.iload_n 1, 1) by decide +kernel) rfl) rfl
    (sb_cons (pc2 := 64) (sx_iast (show decode cX12_find 63 = .ok (.iastore, 1) by decide +kernel)) rfl
    (sb_cons (pc2 := 65) (sx_aload_n (show decode cX12_find 64 = .ok (.aload_n 0, 1) by decide +kernel) rfl) rfl
    (sb_cons (pc2 := 68) (sx_getf (show decode cX12_find 65 = .ok (.getfield 45, 3) by decide +kernel) rfl iX12 (by decide) wd_682) rfl
    (sb_cons (pc2 := 69) (sx_aload_n (show decode cX12_find 68 = .ok (.aload_n 0, 1) by decide +kernel) rfl) rfl
    (sb_cons (pc2 := 72) (sx_getf (show decode cX12_find 69 = .ok (.getfield 151, 3) by decide +kernel) rfl iX12 (by decide) wd_720) rfl
    (sb_cons (pc2 := 73) (sx_iload_n (show decode cX12_find 72 = .ok (.iload_n 2, 1) by decide +kernel) rfl) rfl
    (sb_cons (pc2 := 74) (sx_iast (show decode cX12_find 73 = .ok (.iastore, 1) by decide +kernel)) rfl
    (sb_cons (pc2 := 75) (sx_aload_n (show decode cX12_find 74 = .ok (.aload_n 0, 1) by decide +kernel) rfl) rfl
    (sb_cons (pc2 := 78) (sx_getf (show decode cX12_find 75 = .ok (.getfield 48, 3) by decide +kernel) rfl iX12 (by decide) wd_683) rfl
    (sb_cons (pc2 := 79) (sx_aload_n (show decode cX12_find 78 = .ok (.aload_n 0, 1) by decide +kernel) rfl) rfl
    (sb_cons (pc2 := 82) (sx_getf (show decode cX12_find 79 = .ok (.getfield 151, 3) by decide +kernel) rfl iX12 (by decide) wd_720) rfl
    (sb_cons (pc2 := 83) (sx_iload_n (show decode cX12_find 82 = .ok (.iload_n 3, 1) by decide +kernel) rfl) rfl
    (sb_cons (pc2 := 84) (sx_iast (show decode cX12_find 83 = .ok (.iastore, 1) by decide +kernel)) rfl
    (sb_cons (pc2 := 85) (sx_aload_n (show decode cX12_find 84 = .ok (.aload_n 0, 1) by decide +kernel) rfl) rfl
    (sb_cons (pc2 := 88) (sx_getf (show decode cX12_find 85 = .ok (.getfield 51, 3) by decide +kernel) rfl iX12 (by decide) wd_684) rfl
    (sb_cons (pc2 := 89) (sx_aload_n (show decode cX12_find 88 = .ok (.aload_n 0, 1) by decide +kernel) rfl) rfl
    (sb_cons (pc2 := 92) (sx_getf (show decode cX12_find 89 = .ok (.getfield 151, 3) by decide +kernel) rfl iX12 (by decide) wd_720) rfl
    (sb_cons (pc2 := 94) (sx_iload (show decode cX12_find 92 = .ok (.iload 4, 2) by decide +kernel)) rfl
    (sb_cons (pc2 := 95) (sx_iast (show decode cX12_find 94 = .ok (.iastore, 1) by decide +kernel)) rfl
    (sb_cons (pc2 := 96) (sx_aload_n (show decode cX12_find 95 = .ok (.aload_n 0, 1) by decide +kernel) rfl) rfl
    (sb_cons (pc2 := 99) (sx_getf (show decode cX12_find 96 = .ok (.getfield 60, 3) by decide +kernel) rfl iX12 (by decide) wd_687) rfl
    (sb_cons (pc2 := 100) (sx_aload_n (show decode cX12_find 99 = .ok (.aload_n 0, 1) by decide +kernel) rfl) rfl
    (sb_cons (pc2 := 103) (sx_getf (show decode cX12_find 100 = .ok (.getfield 151, 3) by decide +kernel) rfl iX12 (by decide) wd_720) rfl
    (sb_cons (pc2 := 104) (sx_iconst (show decode cX12_find 103 = .ok (.iconst (-1), 1) by decide +kernel) (by decide)) rfl
    (sb_cons (pc2 := 105) (sx_iast (show decode cX12_find 104 = .ok (.iastore, 1) by decide +kernel)) rfl
    (sb_cons (pc2 := 106) (sx_aload_n (show decode cX12_find 105 = .ok (.aload_n 0, 1) by decide +kernel) rfl) rfl
    (sb_cons (pc2 := 107) (sx_dup (show decode cX12_find 106 = .ok (.dup, 1) by decide +kernel)) rfl
    (sb_cons (pc2 := 110) (sx_getf (show decode cX12_find 107 = .ok (.getfield 151, 3) by decide +kernel) rfl iX12 (by decide) wd_720) rfl
    (sb_cons (pc2 := 111) (sx_iconst (show decode cX12_find 110 = .ok (.iconst 1, 1) by decide +kernel) (by decide)) rfl
    (sb_cons (pc2 := 112) (sx_iadd (show decode cX12_find 111 = .ok (.iadd, 1) by decide +kernel)) rfl
    (sb_cons (pc2 := 115) (sx_puti (show decode cX12_find 112 = .ok (.putfield 151, 3) by decide +kernel) rfl iX12 tyX12_ok nmX12 (by decide) wd_720 rfl (Or.inl rfl)) rfl
    (sb_cons (pc2 := 116) (sx_aload_n (show decode cX12_find 115 = .ok (.aload_n 0, 1) by decide +kernel) rfl) rfl
    (sb_cons (pc2 := 119) (sx_getf (show decode cX12_find 116 = .ok (.getfield 151, 3) by decide +kernel) rfl iX12 (by decide) wd_720) rfl
    (sb_cons (pc2 := 120) (sx_iconst (show decode cX12_find 119 = .ok (.iconst 1, 1) by decide +kernel) (by decide)) rfl
    (sb_cons (pc2 := 121) (sx_isub (show decode cX12_find 120 = .ok (.isub, 1) by decide +kernel)) rfl
    (sb_cons (pc2 := 122) (sx_reti (show decode cX12_find 121 = .ok (.ireturn, 1) by decide +kernel) rfl) rfl sb_nil)))))))))))))))))))))))))))))))))))))))))
  ms_nil))))
def kX12_isTimber (X : px_X) : px_B := [(0, [], [px_aload 0, px_iload 1, px_cV X 167 2 12, px_if1 (fun x => decide (x = 0)) 22, px_aload 0, px_getf 12 14, px_iload 1, px_iald 0, px_push (.int 1), px_if2 (fun x y => decide (¬ x = y)) 22, px_push (.int 1), px_goto 23], 22),
  (22, [false, false], [px_push (.int 0)], 23),
  (23, [false, false], [px_retz], 24)]
set_option maxRecDepth 100000 in
set_option maxHeartbeats 8000000 in
theorem sX12_isTimber (d : Nat) (X : px_X) : px_MS d X YX12_isTimber (kX12_isTimber X) :=
  (ms_cons
  (sb_cons (pc2 := 1) (sx_aload_n (show decode cX12_isTimber 0 = .ok (.aload_n 0, 1) by decide +kernel) rfl) rfl
    (sb_cons (pc2 := 2) (sx_iload_n (show decode cX12_isTimber 1 = .ok (.iload_n 1, 1) by decide +kernel) rfl) rfl
    (sb_cons (pc2 := 5) (sx_cV (Y' := YX12_isFind) (q := (RX12, TX12, 69)) rfl (show decode cX12_isTimber 2 = .ok (.invokevirtual 196, 3) by decide +kernel) rfl rfl (px_w4 wd_761 wd_762 wd_763 wd_719) wd_760 ⟨by decide, by decide, by decide +kernel⟩ (by decide)) rfl
    (sb_cons (pc2 := 8) (sx_if_eq (show decode cX12_isTimber 5 = .ok (.ifCond .eq 17, 3) by decide +kernel) (by decide)) rfl
    (sb_cons (pc2 := 9) (sx_aload_n (show decode cX12_isTimber 8 = .ok (.aload_n 0, 1) by decide +kernel) rfl) rfl
    (sb_cons (pc2 := 12) (sx_getf (show decode cX12_isTimber 9 = .ok (.getfield 42, 3) by decide +kernel) rfl iX12 (by decide) wd_681) rfl
    (sb_cons (pc2 := 13) (sx_iload_n (show decode cX12_isTimber 12 = .ok (.iload_n 1, 1) by decide +kernel) rfl) rfl
    (sb_cons (pc2 := 14) (sx_iald (show decode cX12_isTimber 13 = .ok (.iaload, 1) by decide +kernel)) rfl
    (sb_cons (pc2 := 15) (sx_iconst (show decode cX12_isTimber 14 = .ok (.iconst 1, 1) by decide +kernel) (by decide)) rfl
    (sb_cons (pc2 := 18) (sx_icmp_ne (show decode cX12_isTimber 15 = .ok (.if_icmp .ne 7, 3) by decide +kernel) (by decide)) rfl
    (sb_cons (pc2 := 19) (sx_iconst (show decode cX12_isTimber 18 = .ok (.iconst 1, 1) by decide +kernel) (by decide)) rfl
    (sb_cons (pc2 := 22) (px_snd_goto (show decode cX12_isTimber 19 = .ok (.goto 4, 3) by decide +kernel) (by decide)) rfl sb_nil))))))))))))
  (ms_cons
  (sb_cons (pc2 := 23) (sx_iconst (show decode cX12_isTimber 22 = .ok (.iconst 0, 1) by decide +kernel) (by decide)) rfl sb_nil)
  (ms_cons
  (sb_cons (pc2 := 24) (sx_retz (show decode cX12_isTimber 23 = .ok (.ireturn, 1) by decide +kernel) rfl) rfl sb_nil)
  ms_nil)))
def kX12_hole (X : px_X) : px_B := [(0, [], [px_aload 0, px_iload 1, px_cV X 183 2 12, px_if1 (fun x => decide (x = 0)) 18, px_iload 2, px_push (.int 0), px_push (.int 99), px_cS X 165 3, px_if1 (fun x => decide (¬ x = 0)) 21], 18),
  (18, [false, false, false, false, false], [px_push (.int (-2)), px_reti], 21),
  (21, [true, true, true, false, false], [px_push (.int 8), px_iload 1, (px_i2 fun x y => x * y), px_istore 3, px_iload 3, px_istore 4], 29),
  (29, [true, true, true, true, true], [px_iload 4, px_iload 3, px_aload 0, px_getf 12 18, px_iload 1, px_iald 0, (px_i2 fun x y => x + y), px_if2 (fun x y => decide (y ≤ x)) 62, px_aload 0, px_getf 12 19, px_iload 4, px_iald 0, px_iload 2, px_if2 (fun x y => decide (¬ x = y)) 56, px_push (.int (-3)), px_reti], 56),
  (56, [true, true, true, true, true], [px_iinc 4 1, px_goto 29], 62),
  (62, [true, true, true, true, false], [px_aload 0, px_getf 12 18, px_iload 1, px_iald 0, px_push (.int 8), px_if2 (fun x y => decide (¬ x = y)) 76, px_push (.int (-4)), px_reti], 76),
  (76, [true, true, true, true, false], [px_aload 0, px_getf 12 19, px_iload 3, px_aload 0, px_getf 12 18, px_iload 1, px_iald 0, (px_i2 fun x y => x + y), px_iload 2, px_iast 0, px_aload 0, px_getf 12 18, px_iload 1, px_dup2, px_iald 0, px_push (.int 1), (px_i2 fun x y => x + y), px_iast 0, px_aload 0, px_getf 12 18, px_iload 1, px_iald 0, px_reti], 107)]
set_option maxRecDepth 100000 in
set_option maxHeartbeats 8000000 in
theorem sX12_hole (d : Nat) (X : px_X) : px_MS d X YX12_hole (kX12_hole X) :=
  (ms_cons
  (sb_cons (pc2 := 1) (sx_aload_n (show decode cX12_hole 0 = .ok (.aload_n 0, 1) by decide +kernel) rfl) rfl
    (sb_cons (pc2 := 2) (sx_iload_n (show decode cX12_hole 1 = .ok (.iload_n 1, 1) by decide +kernel) rfl) rfl
    (sb_cons (pc2 := 5) (sx_cV (Y' := YX12_isTimber) (q := (RX12, TX12, 69)) rfl (show decode cX12_hole 2 = .ok (.invokevirtual 199, 3) by decide +kernel) rfl rfl (px_w4 wd_765 wd_766 wd_767 wd_719) wd_764 ⟨by decide, by decide, by decide +kernel⟩ (by decide)) rfl
    (sb_cons (pc2 := 8) (sx_if_eq (show decode cX12_hole 5 = .ok (.ifCond .eq 13, 3) by decide +kernel) (by decide)) rfl
    (sb_cons (pc2 := 9) (sx_iload_n (show decode cX12_hole 8 = .ok (.iload_n 2, 1) by decide +kernel) rfl) rfl
    (sb_cons (pc2 := 10) (sx_iconst (show decode cX12_hole 9 = .ok (.iconst 0, 1) by decide +kernel) (by decide)) rfl
    (sb_cons (pc2 := 12) (sx_bipush (show decode cX12_hole 10 = .ok (.bipush 99, 2) by decide +kernel) (by decide)) rfl
    (sb_cons (pc2 := 15) (sx_cS (Y' := YX12_in) rfl (show decode cX12_hole 12 = .ok (.invokestatic 147, 3) by decide +kernel) rfl (px_w3 wd_717 wd_718 wd_719) wd_716 ⟨by decide, by decide, by decide +kernel⟩ (by decide)) rfl
    (sb_cons (pc2 := 18) (sx_if_ne (show decode cX12_hole 15 = .ok (.ifCond .ne 6, 3) by decide +kernel) (by decide)) rfl sb_nil)))))))))
  (ms_cons
  (sb_cons (pc2 := 20) (sx_bipush (show decode cX12_hole 18 = .ok (.bipush (-2), 2) by decide +kernel) (by decide)) rfl
    (sb_cons (pc2 := 21) (sx_reti (show decode cX12_hole 20 = .ok (.ireturn, 1) by decide +kernel) rfl) rfl sb_nil))
  (ms_cons
  (sb_cons (pc2 := 23) (sx_bipush (show decode cX12_hole 21 = .ok (.bipush 8, 2) by decide +kernel) (by decide)) rfl
    (sb_cons (pc2 := 24) (sx_iload_n (show decode cX12_hole 23 = .ok (.iload_n 1, 1) by decide +kernel) rfl) rfl
    (sb_cons (pc2 := 25) (sx_imul (show decode cX12_hole 24 = .ok (.imul, 1) by decide +kernel)) rfl
    (sb_cons (pc2 := 26) (sx_istore_n (show decode cX12_hole 25 = .ok (.istore_n 3, 1) by decide +kernel) rfl) rfl
    (sb_cons (pc2 := 27) (sx_iload_n (show decode cX12_hole 26 = .ok (.iload_n 3, 1) by decide +kernel) rfl) rfl
    (sb_cons (pc2 := 29) (sx_istore (show decode cX12_hole 27 = .ok (.istore 4, 2) by decide +kernel)) rfl sb_nil))))))
  (ms_cons
  (sb_cons (pc2 := 31) (sx_iload (show decode cX12_hole 29 = .ok (.iload 4, 2) by decide +kernel)) rfl
    (sb_cons (pc2 := 32) (sx_iload_n (show decode cX12_hole 31 = .ok (.iload_n 3, 1) by decide +kernel) rfl) rfl
    (sb_cons (pc2 := 33) (sx_aload_n (show decode cX12_hole 32 = .ok (.aload_n 0, 1) by decide +kernel) rfl) rfl
    (sb_cons (pc2 := 36) (sx_getf (show decode cX12_hole 33 = .ok (.getfield 54, 3) by decide +kernel) rfl iX12 (by decide) wd_685) rfl
    (sb_cons (pc2 := 37) (sx_iload_n (show decode cX12_hole 36 = .ok (.iload_n 1, 1) by decide +kernel) rfl) rfl
    (sb_cons (pc2 := 38) (sx_iald (show decode cX12_hole 37 = .ok (.iaload, 1) by decide +kernel)) rfl
    (sb_cons (pc2 := 39) (sx_iadd (show decode cX12_hole 38 = .ok (.iadd, 1) by decide +kernel)) rfl
    (sb_cons (pc2 := 42) (sx_icmp_ge (show decode cX12_hole 39 = .ok (.if_icmp .ge 23, 3) by decide +kernel) (by decide)) rfl
    (sb_cons (pc2 := 43) (sx_aload_n (show decode cX12_hole 42 = .ok (.aload_n 0, 1) by decide +kernel) rfl) rfl
    (sb_cons (pc2 := 46) (sx_getf (show decode cX12_hole 43 = .ok (.getfield 57, 3) by decide +kernel) rfl iX12 (by decide) wd_686) rfl
    (sb_cons (pc2 := 48) (sx_iload (show decode cX12_hole 46 = .ok (.iload 4, 2) by decide +kernel)) rfl
    (sb_cons (pc2 := 49) (sx_iald (show decode cX12_hole 48 = .ok (.iaload, 1) by decide +kernel)) rfl
    (sb_cons (pc2 := 50) (sx_iload_n (show decode cX12_hole 49 = .ok (.iload_n 2, 1) by decide +kernel) rfl) rfl
    (sb_cons (pc2 := 53) (sx_icmp_ne (show decode cX12_hole 50 = .ok (.if_icmp .ne 6, 3) by decide +kernel) (by decide)) rfl
    (sb_cons (pc2 := 55) (sx_bipush (show decode cX12_hole 53 = .ok (.bipush (-3), 2) by decide +kernel) (by decide)) rfl
    (sb_cons (pc2 := 56) (sx_reti (show decode cX12_hole 55 = .ok (.ireturn, 1) by decide +kernel) rfl) rfl sb_nil))))))))))))))))
  (ms_cons
  (sb_cons (pc2 := 59) (sx_iinc (show decode cX12_hole 56 = .ok (.iinc 4 1, 3) by decide +kernel) (by decide)) rfl
    (sb_cons (pc2 := 62) (px_snd_goto (show decode cX12_hole 59 = .ok (.goto (-30), 3) by decide +kernel) (by decide)) rfl sb_nil))
  (ms_cons
  (sb_cons (pc2 := 63) (sx_aload_n (show decode cX12_hole 62 = .ok (.aload_n 0, 1) by decide +kernel) rfl) rfl
    (sb_cons (pc2 := 66) (sx_getf (show decode cX12_hole 63 = .ok (.getfield 54, 3) by decide +kernel) rfl iX12 (by decide) wd_685) rfl
    (sb_cons (pc2 := 67) (sx_iload_n (show decode cX12_hole 66 = .ok (.iload_n 1, 1) by decide +kernel) rfl) rfl
    (sb_cons (pc2 := 68) (sx_iald (show decode cX12_hole 67 = .ok (.iaload, 1) by decide +kernel)) rfl
    (sb_cons (pc2 := 70) (sx_bipush (show decode cX12_hole 68 = .ok (.bipush 8, 2) by decide +kernel) (by decide)) rfl
    (sb_cons (pc2 := 73) (sx_icmp_ne (show decode cX12_hole 70 = .ok (.if_icmp .ne 6, 3) by decide +kernel) (by decide)) rfl
    (sb_cons (pc2 := 75) (sx_bipush (show decode cX12_hole 73 = .ok (.bipush (-4), 2) by decide +kernel) (by decide)) rfl
    (sb_cons (pc2 := 76) (sx_reti (show decode cX12_hole 75 = .ok (.ireturn, 1) by decide +kernel) rfl) rfl sb_nil))))))))
  (ms_cons
  (sb_cons (pc2 := 77) (sx_aload_n (show decode cX12_hole 76 = .ok (.aload_n 0, 1) by decide +kernel) rfl) rfl
    (sb_cons (pc2 := 80) (sx_getf (show decode cX12_hole 77 = .ok (.getfield 57, 3) by decide +kernel) rfl iX12 (by decide) wd_686) rfl
    (sb_cons (pc2 := 81) (sx_iload_n (show decode cX12_hole 80 = .ok (.iload_n 3, 1) by decide +kernel) rfl) rfl
    (sb_cons (pc2 := 82) (sx_aload_n (show decode cX12_hole 81 = .ok (.aload_n 0, 1) by decide +kernel) rfl) rfl
    (sb_cons (pc2 := 85) (sx_getf (show decode cX12_hole 82 = .ok (.getfield 54, 3) by decide +kernel) rfl iX12 (by decide) wd_685) rfl
    (sb_cons (pc2 := 86) (sx_iload_n (show decode cX12_hole 85 = .ok (.iload_n 1, 1) by decide +kernel) rfl) rfl
    (sb_cons (pc2 := 87) (sx_iald (show decode cX12_hole 86 = .ok (.iaload, 1) by decide +kernel)) rfl
    (sb_cons (pc2 := 88) (sx_iadd (show decode cX12_hole 87 = .ok (.iadd, 1) by decide +kernel)) rfl
    (sb_cons (pc2 := 89) (sx_iload_n (show decode cX12_hole 88 = .ok (.iload_n 2, 1) by decide +kernel) rfl) rfl
    (sb_cons (pc2 := 90) (sx_iast (show decode cX12_hole 89 = .ok (.iastore, 1) by decide +kernel)) rfl
    (sb_cons (pc2 := 91) (sx_aload_n (show decode cX12_hole 90 = .ok (.aload_n 0, 1) by decide +kernel) rfl) rfl
    (sb_cons (pc2 := 94) (sx_getf (show decode cX12_hole 91 = .ok (.getfield 54, 3) by decide +kernel) rfl iX12 (by decide) wd_685) rfl
    (sb_cons (pc2 := 95) (sx_iload_n (show decode cX12_hole 94 = .ok (.iload_n 1, 1) by decide +kernel) rfl) rfl
    (sb_cons (pc2 := 96) (sx_dup2 (show decode cX12_hole 95 = .ok (.dup2, 1) by decide +kernel)) rfl
    (sb_cons (pc2 := 97) (sx_iald (show decode cX12_hole 96 = .ok (.iaload, 1) by decide +kernel)) rfl
    (sb_cons (pc2 := 98) (sx_iconst (show decode cX12_hole 97 = .ok (.iconst 1, 1) by decide +kernel) (by decide)) rfl
    (sb_cons (pc2 := 99) (sx_iadd (show decode cX12_hole 98 = .ok (.iadd, 1) by decide +kernel)) rfl
    (sb_cons (pc2 := 100) (sx_iast (show decode cX12_hole 99 = .ok (.iastore, 1) by decide +kernel)) rfl
    (sb_cons (pc2 := 101) (sx_aload_n (show decode cX12_hole 100 = .ok (.aload_n 0, 1) by decide +kernel) rfl) rfl
    (sb_cons (pc2 := 104) (sx_getf (show decode cX12_hole 101 = .ok (.getfield 54, 3) by decide +kernel) rfl iX12 (by decide) wd_685) rfl
    (sb_cons (pc2 := 105) (sx_iload_n (show decode cX12_hole 104 = .ok (.iload_n 1, 1) by decide +kernel) rfl) rfl
    (sb_cons (pc2 := 106) (sx_iald (show decode cX12_hole 105 = .ok (.iaload, 1) by decide +kernel)) rfl
    (sb_cons (pc2 := 107) (sx_reti (show decode cX12_hole 106 = .ok (.ireturn, 1) by decide +kernel) rfl) rfl sb_nil)))))))))))))))))))))))
  ms_nil)))))))
def kX12_weeks (X : px_X) : px_B := [(0, [], [px_aload 0, px_getf 12 14, px_iload 1, px_iald 0, px_sw [(0, 40), (1, 49), (2, 59), (3, 69), (4, 78)] 88], 40),
  (40, [true, true], [px_push (.int 4), px_aload 0, px_getf 12 17, px_iload 1, px_iald 0, (px_i2 fun x y => x * y), px_reti], 49),
  (49, [true, true], [px_push (.int 8), px_aload 0, px_getf 12 17, px_iload 1, px_iald 0, (px_i2 fun x y => x * y), px_reti], 59),
  (59, [true, true], [px_push (.int 6), px_aload 0, px_getf 12 17, px_iload 1, px_iald 0, (px_i2 fun x y => x * y), px_reti], 69),
  (69, [true, true], [px_push (.int 2), px_aload 0, px_getf 12 17, px_iload 1, px_iald 0, (px_i2 fun x y => x * y), px_reti], 78),
  (78, [true, true], [px_push (.int 10), px_aload 0, px_getf 12 17, px_iload 1, px_iald 0, (px_i2 fun x y => x * y), px_reti], 88),
  (88, [true, true], [px_aload 0, px_getf 12 17, px_iload 1, px_iald 0, px_reti], 95)]
set_option maxRecDepth 100000 in
set_option maxHeartbeats 8000000 in
theorem sX12_weeks (d : Nat) (X : px_X) : px_MS d X YX12_weeks (kX12_weeks X) :=
  (ms_cons
  (sb_cons (pc2 := 1) (sx_aload_n (show decode cX12_weeks 0 = .ok (.aload_n 0, 1) by decide +kernel) rfl) rfl
    (sb_cons (pc2 := 4) (sx_getf (show decode cX12_weeks 1 = .ok (.getfield 42, 3) by decide +kernel) rfl iX12 (by decide) wd_681) rfl
    (sb_cons (pc2 := 5) (sx_iload_n (show decode cX12_weeks 4 = .ok (.iload_n 1, 1) by decide +kernel) rfl) rfl
    (sb_cons (pc2 := 6) (sx_iald (show decode cX12_weeks 5 = .ok (.iaload, 1) by decide +kernel)) rfl
    (sb_cons (pc2 := 40) (sx_tsw (show decode cX12_weeks 6 = .ok (.tableswitch 82 0 4 #[34, 43, 53, 63, 72], 34) by decide +kernel) (by decide) (by decide +kernel) (by decide +kernel)) rfl sb_nil)))))
  (ms_cons
  (sb_cons (pc2 := 41) (sx_iconst (show decode cX12_weeks 40 = .ok (.iconst 4, 1) by decide +kernel) (by decide)) rfl
    (sb_cons (pc2 := 42) (sx_aload_n (show decode cX12_weeks 41 = .ok (.aload_n 0, 1) by decide +kernel) rfl) rfl
    (sb_cons (pc2 := 45) (sx_getf (show decode cX12_weeks 42 = .ok (.getfield 51, 3) by decide +kernel) rfl iX12 (by decide) wd_684) rfl
    (sb_cons (pc2 := 46) (sx_iload_n (show decode cX12_weeks 45 = .ok (.iload_n 1, 1) by decide +kernel) rfl) rfl
    (sb_cons (pc2 := 47) (sx_iald (show decode cX12_weeks 46 = .ok (.iaload, 1) by decide +kernel)) rfl
    (sb_cons (pc2 := 48) (sx_imul (show decode cX12_weeks 47 = .ok (.imul, 1) by decide +kernel)) rfl
    (sb_cons (pc2 := 49) (sx_reti (show decode cX12_weeks 48 = .ok (.ireturn, 1) by decide +kernel) rfl) rfl sb_nil)))))))
  (ms_cons
  (sb_cons (pc2 := 51) (sx_bipush (show decode cX12_weeks 49 = .ok (.bipush 8, 2) by decide +kernel) (by decide)) rfl
    (sb_cons (pc2 := 52) (sx_aload_n (show decode cX12_weeks 51 = .ok (.aload_n 0, 1) by decide +kernel) rfl) rfl
    (sb_cons (pc2 := 55) (sx_getf (show decode cX12_weeks 52 = .ok (.getfield 51, 3) by decide +kernel) rfl iX12 (by decide) wd_684) rfl
    (sb_cons (pc2 := 56) (sx_iload_n (show decode cX12_weeks 55 = .ok (.iload_n 1, 1) by decide +kernel) rfl) rfl
    (sb_cons (pc2 := 57) (sx_iald (show decode cX12_weeks 56 = .ok (.iaload, 1) by decide +kernel)) rfl
    (sb_cons (pc2 := 58) (sx_imul (show decode cX12_weeks 57 = .ok (.imul, 1) by decide +kernel)) rfl
    (sb_cons (pc2 := 59) (sx_reti (show decode cX12_weeks 58 = .ok (.ireturn, 1) by decide +kernel) rfl) rfl sb_nil)))))))
  (ms_cons
  (sb_cons (pc2 := 61) (sx_bipush (show decode cX12_weeks 59 = .ok (.bipush 6, 2) by decide +kernel) (by decide)) rfl
    (sb_cons (pc2 := 62) (sx_aload_n (show decode cX12_weeks 61 = .ok (.aload_n 0, 1) by decide +kernel) rfl) rfl
    (sb_cons (pc2 := 65) (sx_getf (show decode cX12_weeks 62 = .ok (.getfield 51, 3) by decide +kernel) rfl iX12 (by decide) wd_684) rfl
    (sb_cons (pc2 := 66) (sx_iload_n (show decode cX12_weeks 65 = .ok (.iload_n 1, 1) by decide +kernel) rfl) rfl
    (sb_cons (pc2 := 67) (sx_iald (show decode cX12_weeks 66 = .ok (.iaload, 1) by decide +kernel)) rfl
    (sb_cons (pc2 := 68) (sx_imul (show decode cX12_weeks 67 = .ok (.imul, 1) by decide +kernel)) rfl
    (sb_cons (pc2 := 69) (sx_reti (show decode cX12_weeks 68 = .ok (.ireturn, 1) by decide +kernel) rfl) rfl sb_nil)))))))
  (ms_cons
  (sb_cons (pc2 := 70) (sx_iconst (show decode cX12_weeks 69 = .ok (.iconst 2, 1) by decide +kernel) (by decide)) rfl
    (sb_cons (pc2 := 71) (sx_aload_n (show decode cX12_weeks 70 = .ok (.aload_n 0, 1) by decide +kernel) rfl) rfl
    (sb_cons (pc2 := 74) (sx_getf (show decode cX12_weeks 71 = .ok (.getfield 51, 3) by decide +kernel) rfl iX12 (by decide) wd_684) rfl
    (sb_cons (pc2 := 75) (sx_iload_n (show decode cX12_weeks 74 = .ok (.iload_n 1, 1) by decide +kernel) rfl) rfl
    (sb_cons (pc2 := 76) (sx_iald (show decode cX12_weeks 75 = .ok (.iaload, 1) by decide +kernel)) rfl
    (sb_cons (pc2 := 77) (sx_imul (show decode cX12_weeks 76 = .ok (.imul, 1) by decide +kernel)) rfl
    (sb_cons (pc2 := 78) (sx_reti (show decode cX12_weeks 77 = .ok (.ireturn, 1) by decide +kernel) rfl) rfl sb_nil)))))))
  (ms_cons
  (sb_cons (pc2 := 80) (sx_bipush (show decode cX12_weeks 78 = .ok (.bipush 10, 2) by decide +kernel) (by decide)) rfl
    (sb_cons (pc2 := 81) (sx_aload_n (show decode cX12_weeks 80 = .ok (.aload_n 0, 1) by decide +kernel) rfl) rfl
    (sb_cons (pc2 := 84) (sx_getf (show decode cX12_weeks 81 = .ok (.getfield 51, 3) by decide +kernel) rfl iX12 (by decide) wd_684) rfl
    (sb_cons (pc2 := 85) (sx_iload_n (show decode cX12_weeks 84 = .ok (.iload_n 1, 1) by decide +kernel) rfl) rfl
    (sb_cons (pc2 := 86) (sx_iald (show decode cX12_weeks 85 = .ok (.iaload, 1) by decide +kernel)) rfl
    (sb_cons (pc2 := 87) (sx_imul (show decode cX12_weeks 86 = .ok (.imul, 1) by decide +kernel)) rfl
    (sb_cons (pc2 := 88) (sx_reti (show decode cX12_weeks 87 = .ok (.ireturn, 1) by decide +kernel) rfl) rfl sb_nil)))))))
  (ms_cons
  (sb_cons (pc2 := 89) (sx_aload_n (show decode cX12_weeks 88 = .ok (.aload_n 0, 1) by decide +kernel) rfl) rfl
    (sb_cons (pc2 := 92) (sx_getf (show decode cX12_weeks 89 = .ok (.getfield 51, 3) by decide +kernel) rfl iX12 (by decide) wd_684) rfl
    (sb_cons (pc2 := 93) (sx_iload_n (show decode cX12_weeks 92 = .ok (.iload_n 1, 1) by decide +kernel) rfl) rfl
    (sb_cons (pc2 := 94) (sx_iald (show decode cX12_weeks 93 = .ok (.iaload, 1) by decide +kernel)) rfl
    (sb_cons (pc2 := 95) (sx_reti (show decode cX12_weeks 94 = .ok (.ireturn, 1) by decide +kernel) rfl) rfl sb_nil)))))
  ms_nil)))))))
def kX12_findTold (X : px_X) : px_B := [(0, [], [px_aload 0, px_iload 1, px_cV X 167 2 12, px_if1 (fun x => decide (x = 0)) 18, px_iload 2, px_push (.int 0), px_push (.int 7), px_cS X 165 3, px_if1 (fun x => decide (¬ x = 0)) 21], 18),
  (18, [false, false, false, false], [px_push (.int (-2)), px_reti], 21),
  (21, [true, true, true, false], [px_aload 0, px_getf 12 20, px_iload 1, px_iald 0, px_if1 (fun x => decide (x < 0)) 34, px_push (.int 1), px_goto 35], 34),
  (34, [true, true, true, false], [px_push (.int 0)], 35),
  (35, [true, true, true, false], [px_istore 3, px_iload 2, px_sw [(0, 80), (1, 87), (2, 94), (3, 101), (4, 108), (5, 115), (6, 130)] 145], 80),
  (80, [true, true, false, false], [px_aload 0, px_getf 12 14, px_iload 1, px_iald 0, px_reti], 87),
  (87, [true, true, false, false], [px_aload 0, px_getf 12 15, px_iload 1, px_iald 0, px_reti], 94),
  (94, [true, true, false, false], [px_aload 0, px_getf 12 16, px_iload 1, px_iald 0, px_reti], 101),
  (101, [true, true, false, false], [px_aload 0, px_getf 12 17, px_iload 1, px_iald 0, px_reti], 108),
  (108, [true, true, false, false], [px_aload 0, px_getf 12 18, px_iload 1, px_iald 0, px_reti], 115),
  (115, [true, true, false, true], [px_iload 3, px_if1 (fun x => decide (x = 0)) 128, px_aload 0, px_getf 12 20, px_iload 1, px_iald 0, px_goto 129], 128),
  (128, [false, false, false, false], [px_push (.int (-1))], 129),
  (129, [false, false, false, false], [px_reti], 130),
  (130, [true, true, false, true], [px_iload 3, px_if1 (fun x => decide (x = 0)) 143, px_aload 0, px_getf 12 21, px_iload 1, px_iald 0, px_goto 144], 143),
  (143, [false, false, false, false], [px_push (.int (-1))], 144),
  (144, [false, false, false, false], [px_reti], 145),
  (145, [true, true, false, true], [px_iload 3, px_if1 (fun x => decide (x = 0)) 167, px_aload 0, px_getf 12 21, px_iload 1, px_iald 0, px_push (.int 7), px_aload 0, px_iload 1, px_cV X 185 2 12, (px_i2 fun x y => x * y), (px_i2 fun x y => x + y), px_goto 168], 167),
  (167, [false, false, false, false], [px_push (.int (-1))], 168),
  (168, [false, false, false, false], [px_reti], 169)]
set_option maxRecDepth 100000 in
set_option maxHeartbeats 8000000 in
theorem sX12_findTold (d : Nat) (X : px_X) : px_MS d X YX12_findTold (kX12_findTold X) :=
  (ms_cons
  (sb_cons (pc2 := 1) (sx_aload_n (show decode cX12_findTold 0 = .ok (.aload_n 0, 1) by decide +kernel) rfl) rfl
    (sb_cons (pc2 := 2) (sx_iload_n (show decode cX12_findTold 1 = .ok (.iload_n 1, 1) by decide +kernel) rfl) rfl
    (sb_cons (pc2 := 5) (sx_cV (Y' := YX12_isFind) (q := (RX12, TX12, 69)) rfl (show decode cX12_findTold 2 = .ok (.invokevirtual 196, 3) by decide +kernel) rfl rfl (px_w4 wd_761 wd_762 wd_763 wd_719) wd_760 ⟨by decide, by decide, by decide +kernel⟩ (by decide)) rfl
    (sb_cons (pc2 := 8) (sx_if_eq (show decode cX12_findTold 5 = .ok (.ifCond .eq 13, 3) by decide +kernel) (by decide)) rfl
    (sb_cons (pc2 := 9) (sx_iload_n (show decode cX12_findTold 8 = .ok (.iload_n 2, 1) by decide +kernel) rfl) rfl
    (sb_cons (pc2 := 10) (sx_iconst (show decode cX12_findTold 9 = .ok (.iconst 0, 1) by decide +kernel) (by decide)) rfl
    (sb_cons (pc2 := 12) (sx_bipush (show decode cX12_findTold 10 = .ok (.bipush 7, 2) by decide +kernel) (by decide)) rfl
    (sb_cons (pc2 := 15) (sx_cS (Y' := YX12_in) rfl (show decode cX12_findTold 12 = .ok (.invokestatic 147, 3) by decide +kernel) rfl (px_w3 wd_717 wd_718 wd_719) wd_716 ⟨by decide, by decide, by decide +kernel⟩ (by decide)) rfl
    (sb_cons (pc2 := 18) (sx_if_ne (show decode cX12_findTold 15 = .ok (.ifCond .ne 6, 3) by decide +kernel) (by decide)) rfl sb_nil)))))))))
  (ms_cons
  (sb_cons (pc2 := 20) (sx_bipush (show decode cX12_findTold 18 = .ok (.bipush (-2), 2) by decide +kernel) (by decide)) rfl
    (sb_cons (pc2 := 21) (sx_reti (show decode cX12_findTold 20 = .ok (.ireturn, 1) by decide +kernel) rfl) rfl sb_nil))
  (ms_cons
  (sb_cons (pc2 := 22) (sx_aload_n (show decode cX12_findTold 21 = .ok (.aload_n 0, 1) by decide +kernel) rfl) rfl
    (sb_cons (pc2 := 25) (sx_getf (show decode cX12_findTold 22 = .ok (.getfield 60, 3) by decide +kernel) rfl iX12 (by decide) wd_687) rfl
    (sb_cons (pc2 := 26) (sx_iload_n (show decode cX12_findTold 25 = .ok (.iload_n 1, 1) by decide +kernel) rfl) rfl
    (sb_cons (pc2 := 27) (sx_iald (show decode cX12_findTold 26 = .ok (.iaload, 1) by decide +kernel)) rfl
    (sb_cons (pc2 := 30) (sx_if_lt (show decode cX12_findTold 27 = .ok (.ifCond .lt 7, 3) by decide +kernel) (by decide)) rfl
    (sb_cons (pc2 := 31) (sx_iconst (show decode cX12_findTold 30 = .ok (.iconst 1, 1) by decide +kernel) (by decide)) rfl
    (sb_cons (pc2 := 34) (px_snd_goto (show decode cX12_findTold 31 = .ok (.goto 4, 3) by decide +kernel) (by decide)) rfl sb_nil)))))))
  (ms_cons
  (sb_cons (pc2 := 35) (sx_iconst (show decode cX12_findTold 34 = .ok (.iconst 0, 1) by decide +kernel) (by decide)) rfl sb_nil)
  (ms_cons
  (sb_cons (pc2 := 36) (sx_istore_n (show decode cX12_findTold 35 = .ok (.istore_n 3, 1) by decide +kernel) rfl) rfl
    (sb_cons (pc2 := 37) (sx_iload_n (show decode cX12_findTold 36 = .ok (.iload_n 2, 1) by decide +kernel) rfl) rfl
    (sb_cons (pc2 := 80) (sx_tsw (show decode cX12_findTold 37 = .ok (.tableswitch 108 0 6 #[43, 50, 57, 64, 71, 78, 93], 43) by decide +kernel) (by decide) (by decide +kernel) (by decide +kernel)) rfl sb_nil)))
  (ms_cons
  (sb_cons (pc2 := 81) (sx_aload_n (show decode cX12_findTold 80 = .ok (.aload_n 0, 1) by decide +kernel) rfl) rfl
    (sb_cons (pc2 := 84) (sx_getf (show decode cX12_findTold 81 = .ok (.getfield 42, 3) by decide +kernel) rfl iX12 (by decide) wd_681) rfl
    (sb_cons (pc2 := 85) (sx_iload_n (show decode cX12_findTold 84 = .ok (.iload_n 1, 1) by decide +kernel) rfl) rfl
    (sb_cons (pc2 := 86) (sx_iald (show decode cX12_findTold 85 = .ok (.iaload, 1) by decide +kernel)) rfl
    (sb_cons (pc2 := 87) (sx_reti (show decode cX12_findTold 86 = .ok (.ireturn, 1) by decide +kernel) rfl) rfl sb_nil)))))
  (ms_cons
  (sb_cons (pc2 := 88) (sx_aload_n (show decode cX12_findTold 87 = .ok (.aload_n 0, 1) by decide +kernel) rfl) rfl
    (sb_cons (pc2 := 91) (sx_getf (show decode cX12_findTold 88 = .ok (.getfield 45, 3) by decide +kernel) rfl iX12 (by decide) wd_682) rfl
    (sb_cons (pc2 := 92) (sx_iload_n (show decode cX12_findTold 91 = .ok (.iload_n 1, 1) by decide +kernel) rfl) rfl
    (sb_cons (pc2 := 93) (sx_iald (show decode cX12_findTold 92 = .ok (.iaload, 1) by decide +kernel)) rfl
    (sb_cons (pc2 := 94) (sx_reti (show decode cX12_findTold 93 = .ok (.ireturn, 1) by decide +kernel) rfl) rfl sb_nil)))))
  (ms_cons
  (sb_cons (pc2 := 95) (sx_aload_n (show decode cX12_findTold 94 = .ok (.aload_n 0, 1) by decide +kernel) rfl) rfl
    (sb_cons (pc2 := 98) (sx_getf (show decode cX12_findTold 95 = .ok (.getfield 48, 3) by decide +kernel) rfl iX12 (by decide) wd_683) rfl
    (sb_cons (pc2 := 99) (sx_iload_n (show decode cX12_findTold 98 = .ok (.iload_n 1, 1) by decide +kernel) rfl) rfl
    (sb_cons (pc2 := 100) (sx_iald (show decode cX12_findTold 99 = .ok (.iaload, 1) by decide +kernel)) rfl
    (sb_cons (pc2 := 101) (sx_reti (show decode cX12_findTold 100 = .ok (.ireturn, 1) by decide +kernel) rfl) rfl sb_nil)))))
  (ms_cons
  (sb_cons (pc2 := 102) (sx_aload_n (show decode cX12_findTold 101 = .ok (.aload_n 0, 1) by decide +kernel) rfl) rfl
    (sb_cons (pc2 := 105) (sx_getf (show decode cX12_findTold 102 = .ok (.getfield 51, 3) by decide +kernel) rfl iX12 (by decide) wd_684) rfl
    (sb_cons (pc2 := 106) (sx_iload_n (show decode cX12_findTold 105 = .ok (.iload_n 1, 1) by decide +kernel) rfl) rfl
    (sb_cons (pc2 := 107) (sx_iald (show decode cX12_findTold 106 = .ok (.iaload, 1) by decide +kernel)) rfl
    (sb_cons (pc2 := 108) (sx_reti (show decode cX12_findTold 107 = .ok (.ireturn, 1) by decide +kernel) rfl) rfl sb_nil)))))
  (ms_cons
  (sb_cons (pc2 := 109) (sx_aload_n (show decode cX12_findTold 108 = .ok (.aload_n 0, 1) by decide +kernel) rfl) rfl
    (sb_cons (pc2 := 112) (sx_getf (show decode cX12_findTold 109 = .ok (.getfield 54, 3) by decide +kernel) rfl iX12 (by decide) wd_685) rfl
    (sb_cons (pc2 := 113) (sx_iload_n (show decode cX12_findTold 112 = .ok (.iload_n 1, 1) by decide +kernel) rfl) rfl
    (sb_cons (pc2 := 114) (sx_iald (show decode cX12_findTold 113 = .ok (.iaload, 1) by decide +kernel)) rfl
    (sb_cons (pc2 := 115) (sx_reti (show decode cX12_findTold 114 = .ok (.ireturn, 1) by decide +kernel) rfl) rfl sb_nil)))))
  (ms_cons
  (sb_cons (pc2 := 116) (sx_iload_n (show decode cX12_findTold 115 = .ok (.iload_n 3, 1) by decide +kernel) rfl) rfl
    (sb_cons (pc2 := 119) (sx_if_eq (show decode cX12_findTold 116 = .ok (.ifCond .eq 12, 3) by decide +kernel) (by decide)) rfl
    (sb_cons (pc2 := 120) (sx_aload_n (show decode cX12_findTold 119 = .ok (.aload_n 0, 1) by decide +kernel) rfl) rfl
    (sb_cons (pc2 := 123) (sx_getf (show decode cX12_findTold 120 = .ok (.getfield 60, 3) by decide +kernel) rfl iX12 (by decide) wd_687) rfl
    (sb_cons (pc2 := 124) (sx_iload_n (show decode cX12_findTold 123 = .ok (.iload_n 1, 1) by decide +kernel) rfl) rfl
    (sb_cons (pc2 := 125) (sx_iald (show decode cX12_findTold 124 = .ok (.iaload, 1) by decide +kernel)) rfl
    (sb_cons (pc2 := 128) (px_snd_goto (show decode cX12_findTold 125 = .ok (.goto 4, 3) by decide +kernel) (by decide)) rfl sb_nil)))))))
  (ms_cons
  (sb_cons (pc2 := 129) (sx_iconst (show decode cX12_findTold 128 = .ok (.iconst (-1), 1) by decide +kernel) (by decide)) rfl sb_nil)
  (ms_cons
  (sb_cons (pc2 := 130) (sx_reti (show decode cX12_findTold 129 = .ok (.ireturn, 1) by decide +kernel) rfl) rfl sb_nil)
  (ms_cons
  (sb_cons (pc2 := 131) (sx_iload_n (show decode cX12_findTold 130 = .ok (.iload_n 3, 1) by decide +kernel) rfl) rfl
    (sb_cons (pc2 := 134) (sx_if_eq (show decode cX12_findTold 131 = .ok (.ifCond .eq 12, 3) by decide +kernel) (by decide)) rfl
    (sb_cons (pc2 := 135) (sx_aload_n (show decode cX12_findTold 134 = .ok (.aload_n 0, 1) by decide +kernel) rfl) rfl
    (sb_cons (pc2 := 138) (sx_getf (show decode cX12_findTold 135 = .ok (.getfield 63, 3) by decide +kernel) rfl iX12 (by decide) wd_688) rfl
    (sb_cons (pc2 := 139) (sx_iload_n (show decode cX12_findTold 138 = .ok (.iload_n 1, 1) by decide +kernel) rfl) rfl
    (sb_cons (pc2 := 140) (sx_iald (show decode cX12_findTold 139 = .ok (.iaload, 1) by decide +kernel)) rfl
    (sb_cons (pc2 := 143) (px_snd_goto (show decode cX12_findTold 140 = .ok (.goto 4, 3) by decide +kernel) (by decide)) rfl sb_nil)))))))
  (ms_cons
  (sb_cons (pc2 := 144) (sx_iconst (show decode cX12_findTold 143 = .ok (.iconst (-1), 1) by decide +kernel) (by decide)) rfl sb_nil)
  (ms_cons
  (sb_cons (pc2 := 145) (sx_reti (show decode cX12_findTold 144 = .ok (.ireturn, 1) by decide +kernel) rfl) rfl sb_nil)
  (ms_cons
  (sb_cons (pc2 := 146) (sx_iload_n (show decode cX12_findTold 145 = .ok (.iload_n 3, 1) by decide +kernel) rfl) rfl
    (sb_cons (pc2 := 149) (sx_if_eq (show decode cX12_findTold 146 = .ok (.ifCond .eq 21, 3) by decide +kernel) (by decide)) rfl
    (sb_cons (pc2 := 150) (sx_aload_n (show decode cX12_findTold 149 = .ok (.aload_n 0, 1) by decide +kernel) rfl) rfl
    (sb_cons (pc2 := 153) (sx_getf (show decode cX12_findTold 150 = .ok (.getfield 63, 3) by decide +kernel) rfl iX12 (by decide) wd_688) rfl
    (sb_cons (pc2 := 154) (sx_iload_n (show decode cX12_findTold 153 = .ok (.iload_n 1, 1) by decide +kernel) rfl) rfl
    (sb_cons (pc2 := 155) (sx_iald (show decode cX12_findTold 154 = .ok (.iaload, 1) by decide +kernel)) rfl
    (sb_cons (pc2 := 157) (sx_bipush (show decode cX12_findTold 155 = .ok (.bipush 7, 2) by decide +kernel) (by decide)) rfl
    (sb_cons (pc2 := 158) (sx_aload_n (show decode cX12_findTold 157 = .ok (.aload_n 0, 1) by decide +kernel) rfl) rfl
    (sb_cons (pc2 := 159) (sx_iload_n (show decode cX12_findTold 158 = .ok (.iload_n 1, 1) by decide +kernel) rfl) rfl
    (sb_cons (pc2 := 162) (sx_cV (Y' := YX12_weeks) (q := (RX12, TX12, 69)) rfl (show decode cX12_findTold 159 = .ok (.invokevirtual 202, 3) by decide +kernel) rfl rfl (px_w4 wd_769 wd_770 wd_771 wd_719) wd_768 ⟨by decide, by decide, by decide +kernel⟩ (by decide)) rfl
    (sb_cons (pc2 := 163) (sx_imul (show decode cX12_findTold 162 = .ok (.imul, 1) by decide +kernel)) rfl
    (sb_cons (pc2 := 164) (sx_iadd (show decode cX12_findTold 163 = .ok (.iadd, 1) by decide +kernel)) rfl
    (sb_cons (pc2 := 167) (px_snd_goto (show decode cX12_findTold 164 = .ok (.goto 4, 3) by decide +kernel) (by decide)) rfl sb_nil)))))))))))))
  (ms_cons
  (sb_cons (pc2 := 168) (sx_iconst (show decode cX12_findTold 167 = .ok (.iconst (-1), 1) by decide +kernel) (by decide)) rfl sb_nil)
  (ms_cons
  (sb_cons (pc2 := 169) (sx_reti (show decode cX12_findTold 168 = .ok (.ireturn, 1) by decide +kernel) rfl) rfl sb_nil)
  ms_nil)))))))))))))))))))
