/-! PART 57: TAPE -/
abbrev tpG (s : Sv) (v u l : Int32) : Prop := px_in v 0 (nI (Sm s) - 1) = 1 ∧ px_in u 0 (nI (Sm s) - 1) = 1 ∧ v ≠ u ∧ 1 ≤ l ∧ l ≤ 15000
/-- a tape more -/
def tpN (s : Sv) (v u l : Int32) : Sv := (Sm s, St s + 1, Sx s, Sy s, Sf s, ups' (Sa s) (St s) v.toNatClampNeg, ups' (Sb s) (St s) u.toNatClampNeg, ups' (Sl s) (St s) l.toNatClampNeg)
def tpA (s : Sv) (v u l : Int32) : Int32 × Sv := if tpG s v u l then (if St s = 24 then (-4, s) else (nI (St s), tpN s v u l)) else (-2, s)
def ISt (s : Sv) : Prop := Sm s ≤ 8 ∧ St s ≤ 24 ∧ ∀ k, k < St s → Sa s k < Sm s ∧ Sb s k < Sm s ∧ Sa s k ≠ Sb s k ∧ 1 ≤ Sl s k ∧ Sl s k ≤ 15000
def ICt (s : Sv) (M : Nat → Nat → Int32) : Prop := M 14 0 = nI (Sm s) ∧ M 14 1 = nI (St s) ∧ ∀ k, k < St s → M 18 k = nI (Sa s k) ∧ M 19 k = nI (Sb s k) ∧ M 20 k = nI (Sl s k)
def IMt (s : Sv) (M : Nat → Nat → Int32) : Prop := M 67 0 = nI (Sm s) ∧ M 67 6 = nI (St s) ∧ ∀ k, k < St s → M 73 k = nI (Sa s k) ∧ M 74 k = nI (Sb s k) ∧ M 75 k = nI (Sl s k)
theorem in_01 (v : Int32) {n : Nat} (hn : n < 2 ^ 31) : (px_in v 0 (nI n - 1) = 1 ∧ ∃ i, i < n ∧ v = nI i) ∨ px_in v 0 (nI n - 1) = 0 := by
  rcases pk_ix v (n := n) hn with h | h | ⟨i, hi, rfl⟩
  · exact Or.inr (in_n hn (Or.inl h))
  · exact Or.inr (in_n hn (Or.inr h))
  · exact Or.inl ⟨in_y hi hn, i, hi, rfl⟩
theorem tpG_n {s : Sv} {v u l : Int32} (hm : Sm s ≤ 8) (h : tpG s v u l) : ∃ a b k, v = nI a ∧ u = nI b ∧ l = nI k ∧ a < Sm s ∧ b < Sm s ∧ a ≠ b ∧ 1 ≤ k ∧ k ≤ 15000 := by
  obtain ⟨h1, h2, h3, h4, h5⟩ := h
  rcases in_01 v (n := Sm s) (by omega) with ⟨_, a, ha, rfl⟩ | q
  · rcases in_01 u (n := Sm s) (by omega) with ⟨_, b, hb, rfl⟩ | q
    · obtain ⟨k, hk, rfl⟩ := nI_of2 (x := l) (M := 15000) (n := 15000) (by decide) (Int32.not_lt.mpr (Int32.le_trans (by decide) h4)) h5
      refine ⟨a, b, k, rfl, rfl, rfl, ha, hb, fun q => h3 (by rw [q]), ?_, hk⟩
      rcases Nat.eq_zero_or_pos k with q | q
      · subst q
        exact absurd h4 (by decide)
      · exact q
    · rw [q] at h2
      exact absurd h2 (by decide)
  · rw [q] at h1
    exact absurd h1 (by decide)
theorem ISt_A {s : Sv} (h : ISt s) (v u l : Int32) : ISt (tpA s v u l).2 := by
  unfold tpA
  split
  · rename_i hg
    split
    · exact h
    · obtain ⟨a, b, k, rfl, rfl, rfl, ha, hb, hab, hk, hk2⟩ := tpG_n h.1 hg
      refine ⟨h.1, by have := h.2.1; show St s + 1 ≤ 24; omega, fun j hj => ?_⟩
      have hj' : j < St s + 1 := hj
      have hm := h.1
      show ups' (Sa s) (St s) (nI a).toNatClampNeg j < Sm s ∧ ups' (Sb s) (St s) (nI b).toNatClampNeg j < Sm s ∧ ups' (Sa s) (St s) (nI a).toNatClampNeg j ≠ ups' (Sb s) (St s) (nI b).toNatClampNeg j ∧ 1 ≤ ups' (Sl s) (St s) (nI k).toNatClampNeg j ∧ ups' (Sl s) (St s) (nI k).toNatClampNeg j ≤ 15000
      rw [nI_clamp (by omega), nI_clamp (by omega), nI_clamp (by omega)]
      by_cases e : j = St s
      · subst e
        rw [ups'_s, ups'_s, ups'_s]
        exact ⟨ha, hb, hab, hk, hk2⟩
      · rw [ups'_n _ _ e, ups'_n _ _ e, ups'_n _ _ e]
        exact h.2.2 j (by omega)
  · exact h
theorem tpA_m (s : Sv) (v u l : Int32) : Sm (tpA s v u l).2 = Sm s ∧ Sx (tpA s v u l).2 = Sx s ∧ Sy (tpA s v u l).2 = Sy s ∧ Sf (tpA s v u l).2 = Sf s := by
  unfold tpA
  split
  · split
    · exact ⟨rfl, rfl, rfl, rfl⟩
    · exact ⟨rfl, rfl, rfl, rfl⟩
  · exact ⟨rfl, rfl, rfl, rfl⟩
section S57
variable (d : Nat) (M : Nat → Nat → Int32) (J : Nat → Nat → Int64) (R : Nat → Nat → Option Nat) (c e nL : Nat) (xs : Nat → Int32) (D : px_H)
theorem c_addTape {s : Sv} (hs : ISt s) (hI : ICt s M) (v u l : Int32) : ∃ M1, px_ex px_tab (d + 2) 81 [Value.ref (14), Value.int (v), Value.int (u), Value.int (l)] (hp (M) (J) (R) (c) (e) nL xs (D)) = some (some (Value.int ((tpA s v u l).1)), (hp (M1) (J) (R) (c) (e) nL xs (D))) ∧ ICt (tpA s v u l).2 M1 ∧ frm [14, 18, 19, 20, 24] [] M M1 ∧ (∀ k, k ≠ 1 → k ≠ 9 → M1 14 k = M 14 k) ∧ (M1 = M ∧ (tpA s v u l).2 = s ∨ M1 14 9 = 0 ∧ ∀ j, j < St (tpA s v u l).2 → M1 24 j = nI 99) := by
  have hm := hs.1
  have ht := hs.2.1
  unfold tpA
  by_cases hg : tpG s v u l
  · rw [if_pos hg]
    obtain ⟨g1, g2, g3, g4, g5⟩ := hg
    by_cases h24 : St s = 24
    · rw [if_pos h24]
      refine ⟨M, ?_, hI, frm.rf _ _ _, fun _ _ _ => rfl, Or.inl ⟨rfl, rfl⟩⟩
      rw [xX7_addTape]
      simp (disch := omega) only [px_bd_s, px_psh_s, px_psh_n, px_vb_s, px_ib_s, px_wb_s, px_bo_s, px_bo_n, Bool.cond_decide, cond_true, cond_false, ite_not, Bool.and_true, if_true, if_false, not_true_eq_false, not_false_eq_true, i10, eq_self, decide_true, decide_false, Bool.or_true, Bool.true_or, Bool.or_false, Bool.false_or, eX7_addTape_0, eX7_addTape_0_3, eX7_addTape_33, eX7_addTape_0_7, eX7_addTape_36, eX7_addTape_48, eX7_addTape_48_26, c_hasMark _ _ _ _ _ _ _ _ _ hm hI.1, g1, g2, g3, Int32.not_lt.mpr g4, g5, hI.2.1, h24, show ¬ nI 24 < 24 from by decide]
    · rw [if_neg h24]
      obtain ⟨z, q1, q2⟩ := c_frg d (px_uR (px_uR (px_uR (px_uR M 18 (upd (M 18) (St s) v)) 19 (upd (M 19) (St s) u)) 20 (upd (M 20) (St s) l)) 14 (upd (M 14) 1 (nI (St s + 1)))) J R c e nL xs D (t := St s + 1) (by omega) rfl
      refine ⟨px_uR (px_uR (px_uR (px_uR (px_uR (px_uR M 18 (upd (M 18) (St s) v)) 19 (upd (M 19) (St s) u)) 20 (upd (M 20) (St s) l)) 14 (upd (M 14) 1 (nI (St s + 1)))) 14 (upd (upd (M 14) 1 (nI (St s + 1))) 9 0)) 24 z, ?_, ?_, ?_, fun k h1 h9 => ?_, Or.inr ⟨rfl, q2⟩⟩
      · rw [xX7_addTape]
        simp (disch := omega) only [px_bd_s, px_psh_s, px_psh_n, px_vb_s, px_ib_s, px_wb_s, px_bo_s, px_bo_n, Bool.cond_decide, cond_true, cond_false, ite_not, Bool.and_true, if_true, if_false, not_true_eq_false, not_false_eq_true, i10, eq_self, decide_true, decide_false, Bool.or_true, Bool.true_or, Bool.or_false, Bool.false_or, eX7_addTape_0, eX7_addTape_0_3, eX7_addTape_33, eX7_addTape_0_7, eX7_addTape_36, eX7_addTape_48, c_hasMark _ _ _ _ _ _ _ _ _ hm hI.1, g1, g2, g3, Int32.not_lt.mpr g4, g5, hI.2.1, zd24, px_inbT, nI_clamp, zp1, if_pos]
        rw [q1]
        simp only [px_bd_s, px_psh_s, px_psh_n, px_vb_s, px_ib_s, px_wb_s, px_bo_s, px_bo_n, Bool.cond_decide, cond_true, cond_false, ite_not, Bool.and_true, if_true, if_false, not_true_eq_false, not_false_eq_true, i10, eq_self, decide_true, decide_false, Bool.or_true, Bool.true_or, Bool.or_false, Bool.false_or, eX7_addTape_48_26]
        exact congrArg (fun w => some (some (Value.int w), _)) (nI_pred (St s))
      · obtain ⟨a, b, k, rfl, rfl, rfl, ha, hb, hab, hk, hk2⟩ := tpG_n hm ⟨g1, g2, g3, g4, g5⟩
        refine ⟨hI.1, rfl, fun j hj => ?_⟩
        have hj' : j < St s + 1 := hj
        show upd (M 18) (St s) (nI a) j = nI (ups' (Sa s) (St s) (nI a).toNatClampNeg j) ∧ upd (M 19) (St s) (nI b) j = nI (ups' (Sb s) (St s) (nI b).toNatClampNeg j) ∧ upd (M 20) (St s) (nI k) j = nI (ups' (Sl s) (St s) (nI k).toNatClampNeg j)
        rw [nI_clamp (by omega), nI_clamp (by omega), nI_clamp (by omega)]
        by_cases e : j = St s
        · subst e
          rw [ups'_s, ups'_s, ups'_s, pk_us, pk_us, pk_us]
          exact ⟨rfl, rfl, rfl⟩
        · rw [ups'_n _ _ e, ups'_n _ _ e, ups'_n _ _ e, pk_un e, pk_un e, pk_un e]
          exact hI.2.2 j (by omega)
      · exact ((((((frm.rf _ _ M).u 18 _ (by decide) (by decide)).u 19 _ (by decide) (by decide)).u 20 _ (by decide) (by decide)).u 14 _ (by decide) (by decide)).u 14 _ (by decide) (by decide)).u 24 _ (by decide) (by decide)
      · show upd (upd (M 14) 1 (nI (St s + 1))) 9 0 k = M 14 k
        rw [pk_un h9, pk_un h1]
  · rw [if_neg hg]
    refine ⟨M, ?_, hI, frm.rf _ _ _, fun _ _ _ => rfl, Or.inl ⟨rfl, rfl⟩⟩
    rw [xX7_addTape]
    simp only [px_bd_s, px_psh_s, px_psh_n, px_vb_s, px_ib_s, px_wb_s, px_bo_s, px_bo_n, Bool.cond_decide, cond_true, cond_false, ite_not, Bool.and_true, if_true, if_false, not_true_eq_false, not_false_eq_true, i10, eq_self, decide_true, decide_false, Bool.or_true, Bool.true_or, Bool.or_false, Bool.false_or, eX7_addTape_0, c_hasMark _ _ _ _ _ _ _ _ _ hm hI.1]
    rcases in_01 v (n := Sm s) (by omega) with ⟨g1, _⟩ | g1
    · rcases in_01 u (n := Sm s) (by omega) with ⟨g2, _⟩ | g2
      · by_cases g3 : v = u
        · simp only [px_bd_s, px_psh_s, px_psh_n, px_vb_s, px_ib_s, px_wb_s, px_bo_s, px_bo_n, Bool.cond_decide, cond_true, cond_false, ite_not, Bool.and_true, if_true, if_false, not_true_eq_false, not_false_eq_true, i10, eq_self, decide_true, decide_false, Bool.or_true, Bool.true_or, Bool.or_false, Bool.false_or, eX7_addTape_0_3, eX7_addTape_33, eX7_addTape_0_7, eX7_addTape_36, eX7_addTape_48, eX7_addTape_48_26, c_hasMark _ _ _ _ _ _ _ _ _ hm hI.1, g1, g2, g3]
        · by_cases g4 : l < 1
          · simp only [px_bd_s, px_psh_s, px_psh_n, px_vb_s, px_ib_s, px_wb_s, px_bo_s, px_bo_n, Bool.cond_decide, cond_true, cond_false, ite_not, Bool.and_true, if_true, if_false, not_true_eq_false, not_false_eq_true, i10, eq_self, decide_true, decide_false, Bool.or_true, Bool.true_or, Bool.or_false, Bool.false_or, eX7_addTape_0_3, eX7_addTape_33, eX7_addTape_0_7, eX7_addTape_36, eX7_addTape_48, eX7_addTape_48_26, c_hasMark _ _ _ _ _ _ _ _ _ hm hI.1, g1, g2, g3, g4]
          · have g5 : ¬ l ≤ 15000 := fun q => hg ⟨g1, g2, g3, Int32.not_lt.mp g4, q⟩
            simp only [px_bd_s, px_psh_s, px_psh_n, px_vb_s, px_ib_s, px_wb_s, px_bo_s, px_bo_n, Bool.cond_decide, cond_true, cond_false, ite_not, Bool.and_true, if_true, if_false, not_true_eq_false, not_false_eq_true, i10, eq_self, decide_true, decide_false, Bool.or_true, Bool.true_or, Bool.or_false, Bool.false_or, eX7_addTape_0_3, eX7_addTape_33, eX7_addTape_0_7, eX7_addTape_36, eX7_addTape_48, eX7_addTape_48_26, c_hasMark _ _ _ _ _ _ _ _ _ hm hI.1, g1, g2, g3, g4, g5]
      · simp only [px_bd_s, px_psh_s, px_psh_n, px_vb_s, px_ib_s, px_wb_s, px_bo_s, px_bo_n, Bool.cond_decide, cond_true, cond_false, ite_not, Bool.and_true, if_true, if_false, not_true_eq_false, not_false_eq_true, i10, eq_self, decide_true, decide_false, Bool.or_true, Bool.true_or, Bool.or_false, Bool.false_or, eX7_addTape_0_3, eX7_addTape_33, eX7_addTape_0_7, eX7_addTape_36, eX7_addTape_48, eX7_addTape_48_26, c_hasMark _ _ _ _ _ _ _ _ _ hm hI.1, g1, g2]
    · simp only [px_bd_s, px_psh_s, px_psh_n, px_vb_s, px_ib_s, px_wb_s, px_bo_s, px_bo_n, Bool.cond_decide, cond_true, cond_false, ite_not, Bool.and_true, if_true, if_false, not_true_eq_false, not_false_eq_true, i10, eq_self, decide_true, decide_false, Bool.or_true, Bool.true_or, Bool.or_false, Bool.false_or, eX7_addTape_0_3, eX7_addTape_33, eX7_addTape_0_7, eX7_addTape_36, eX7_addTape_48, eX7_addTape_48_26, g1]
theorem m_tape {s : Sv} (hs : ISt s) (hI : IMt s M) (v u l : Int32) : ∃ M1, px_ex px_tab (d + 3) 170 [Value.ref (67), Value.int (v), Value.int (u), Value.int (l)] (hp (M) (J) (R) (c) (e) nL xs (D)) = some (some (Value.int ((tpA s v u l).1)), (hp (M1) (J) (R) (c) (e) nL xs (D))) ∧ IMt (tpA s v u l).2 M1 ∧ frm [73, 74, 75] [6, 11] M M1 ∧ (M1 = M ∧ (tpA s v u l).2 = s ∨ M1 67 11 = 0) := by
  have hm := hs.1
  have ht := hs.2.1
  unfold tpA
  by_cases hg : tpG s v u l
  · rw [if_pos hg]
    obtain ⟨g1, g2, g3, g4, g5⟩ := hg
    have g6 : px_in l 1 15000 = 1 := px_in_1 ⟨g4, g5⟩
    by_cases h24 : St s = 24
    · rw [if_pos h24]
      refine ⟨M, ?_, hI, frm.rf _ _ _, Or.inl ⟨rfl, rfl⟩⟩
      rw [xX12_tape]
      simp (disch := omega) only [px_bd_s, px_psh_s, px_psh_n, px_vb_s, px_ib_s, px_wb_s, px_bo_s, px_bo_n, Bool.cond_decide, cond_true, cond_false, ite_not, Bool.and_true, if_true, if_false, not_true_eq_false, not_false_eq_true, i10, eq_self, decide_true, decide_false, Bool.or_true, Bool.true_or, Bool.or_false, Bool.false_or, eX12_tape_0, eX12_tape_0_3, eX12_tape_32, eX12_tape_0_7, eX12_tape_0_15, eX12_tape_35, eX12_tape_47, m_isMark, c_in, hI.1, g1, g2, g3, g6, hI.2.1, h24, show nI 24 = 24 from rfl]
    · rw [if_neg h24]
      refine ⟨px_uR (px_uR (px_uR (px_uR M 73 (upd (M 73) (St s) v)) 74 (upd (M 74) (St s) u)) 75 (upd (M 75) (St s) l)) 67 (upd (upd (M 67) 6 (nI (St s + 1))) 11 0), ?_, ?_, ?_, Or.inr rfl⟩
      · rw [xX12_tape]
        simp (disch := omega) only [px_bd_s, px_psh_s, px_psh_n, px_vb_s, px_ib_s, px_wb_s, px_bo_s, px_bo_n, Bool.cond_decide, cond_true, cond_false, ite_not, Bool.and_true, if_true, if_false, not_true_eq_false, not_false_eq_true, i10, eq_self, decide_true, decide_false, Bool.or_true, Bool.true_or, Bool.or_false, Bool.false_or, eX12_tape_0, eX12_tape_0_3, eX12_tape_32, eX12_tape_0_7, eX12_tape_0_15, eX12_tape_35, eX12_tape_47, m_isMark, c_in, hI.1, g1, g2, g3, g6, hI.2.1, ze24, px_inbT, nI_clamp, zp1, if_neg, nI_pred]
      · obtain ⟨a, b, k, rfl, rfl, rfl, ha, hb, hab, hk, hk2⟩ := tpG_n hm ⟨g1, g2, g3, g4, g5⟩
        refine ⟨hI.1, rfl, fun j hj => ?_⟩
        have hj' : j < St s + 1 := hj
        show upd (M 73) (St s) (nI a) j = nI (ups' (Sa s) (St s) (nI a).toNatClampNeg j) ∧ upd (M 74) (St s) (nI b) j = nI (ups' (Sb s) (St s) (nI b).toNatClampNeg j) ∧ upd (M 75) (St s) (nI k) j = nI (ups' (Sl s) (St s) (nI k).toNatClampNeg j)
        rw [nI_clamp (by omega), nI_clamp (by omega), nI_clamp (by omega)]
        by_cases e : j = St s
        · subst e
          rw [ups'_s, ups'_s, ups'_s, pk_us, pk_us, pk_us]
          exact ⟨rfl, rfl, rfl⟩
        · rw [ups'_n _ _ e, ups'_n _ _ e, ups'_n _ _ e, pk_un e, pk_un e, pk_un e]
          exact hI.2.2 j (by omega)
      · have q := (((((frm.rf [73, 74, 75] [6, 11] M).u 73 (upd (M 73) (St s) v) (by decide) (by decide)).u 74 (upd (M 74) (St s) u) (by decide) (by decide)).u 75 (upd (M 75) (St s) l) (by decide) (by decide)).k 6 (nI (St s + 1)) (by decide)).k 11 0 (by decide)
        rw [px_uR_2] at q
        exact q
  · rw [if_neg hg]
    refine ⟨M, ?_, hI, frm.rf _ _ _, Or.inl ⟨rfl, rfl⟩⟩
    rw [xX12_tape]
    simp only [px_bd_s, px_psh_s, px_psh_n, px_vb_s, px_ib_s, px_wb_s, px_bo_s, px_bo_n, Bool.cond_decide, cond_true, cond_false, ite_not, Bool.and_true, if_true, if_false, not_true_eq_false, not_false_eq_true, i10, eq_self, decide_true, decide_false, Bool.or_true, Bool.true_or, Bool.or_false, Bool.false_or, eX12_tape_0, m_isMark, hI.1]
    rcases in_01 v (n := Sm s) (by omega) with ⟨g1, _⟩ | g1
    · rcases in_01 u (n := Sm s) (by omega) with ⟨g2, _⟩ | g2
      · by_cases g3 : v = u
        · simp only [px_bd_s, px_psh_s, px_psh_n, px_vb_s, px_ib_s, px_wb_s, px_bo_s, px_bo_n, Bool.cond_decide, cond_true, cond_false, ite_not, Bool.and_true, if_true, if_false, not_true_eq_false, not_false_eq_true, i10, eq_self, decide_true, decide_false, Bool.or_true, Bool.true_or, Bool.or_false, Bool.false_or, eX12_tape_0_3, eX12_tape_32, eX12_tape_0_7, eX12_tape_0_15, eX12_tape_35, eX12_tape_47, m_isMark, c_in, hI.1, g1, g2, g3]
        · have g5 : px_in l 1 15000 = 0 := px_in_00 fun q => hg ⟨g1, g2, g3, q⟩
          simp only [px_bd_s, px_psh_s, px_psh_n, px_vb_s, px_ib_s, px_wb_s, px_bo_s, px_bo_n, Bool.cond_decide, cond_true, cond_false, ite_not, Bool.and_true, if_true, if_false, not_true_eq_false, not_false_eq_true, i10, eq_self, decide_true, decide_false, Bool.or_true, Bool.true_or, Bool.or_false, Bool.false_or, eX12_tape_0_3, eX12_tape_32, eX12_tape_0_7, eX12_tape_0_15, eX12_tape_35, eX12_tape_47, m_isMark, c_in, hI.1, g1, g2, g3, g5]
      · simp only [px_bd_s, px_psh_s, px_psh_n, px_vb_s, px_ib_s, px_wb_s, px_bo_s, px_bo_n, Bool.cond_decide, cond_true, cond_false, ite_not, Bool.and_true, if_true, if_false, not_true_eq_false, not_false_eq_true, i10, eq_self, decide_true, decide_false, Bool.or_true, Bool.true_or, Bool.or_false, Bool.false_or, eX12_tape_0_3, eX12_tape_32, eX12_tape_0_7, eX12_tape_0_15, eX12_tape_35, eX12_tape_47, m_isMark, c_in, hI.1, g1, g2]
    · simp only [px_bd_s, px_psh_s, px_psh_n, px_vb_s, px_ib_s, px_wb_s, px_bo_s, px_bo_n, Bool.cond_decide, cond_true, cond_false, ite_not, Bool.and_true, if_true, if_false, not_true_eq_false, not_false_eq_true, i10, eq_self, decide_true, decide_false, Bool.or_true, Bool.true_or, Bool.or_false, Bool.false_or, eX12_tape_0_3, eX12_tape_32, eX12_tape_0_7, eX12_tape_0_15, eX12_tape_35, eX12_tape_47, g1]
end S57
/-- out of the two sides, the survey holds again -/
theorem ISv_t {s s' : Sv} {b r : Nat} {M M1 M2 : Nat → Nat → Int32} (h1 : ISd s b M) (h2 : ISk s r M) (h3 : ISm s b M) (hs : ISt s') (hm : Sm s' = Sm s ∧ Sx s' = Sx s ∧ Sy s' = Sy s ∧ Sf s' = Sf s) (hC : ICt s' M1) (f1 : frm [14, 18, 19, 20, 24] [] M M1) (f14 : ∀ k, k ≠ 1 → k ≠ 9 → M1 14 k = M 14 k) (hk : M1 = M ∧ s' = s ∨ M1 14 9 = 0 ∧ ∀ j, j < St s' → M1 24 j = nI 99) (hM : IMt s' M2) (f2 : frm [73, 74, 75] [6, 11] M1 M2) (hq : M2 = M1 ∧ s' = s ∨ M2 67 11 = 0) : ISv M2 := by
  obtain ⟨a1, a2, b1, b2, a3, a4, a5, a6, a9, a10, a7, a8⟩ := h1
  have e : ∀ a, a ≠ 67 → a ∉ [14, 18, 19, 20, 24, 73, 74, 75] → M2 a = M a := fun a h1 h2 => by
    rw [f2.1 a h1 (fun q => h2 (by simp at q ⊢; omega)), f1.1 a h1 (fun q => h2 (by simp at q ⊢; omega))]
  have e' : ∀ a, a ≠ 67 → a ∉ [73, 74, 75] → M2 a = M1 a := fun a h1 h2 => f2.1 a h1 h2
  have e67 : ∀ k, k ∉ [6, 11] → M2 67 k = M 67 k := fun k h => (f2.2 k h).trans (f1.2 k (by simp))
  refine ⟨s', b, if M1 14 9 = 0 then 0 else r, ⟨hs.1, hs.2.1, b1, b2, ?_, hM.1, ?_, hM.2.1, ?_, ?_, fun i hi => ?_, fun k hk => ?_⟩, ?_, ?_⟩
  · rw [e' 14 (by decide) (by decide)]
    exact hC.1
  · rw [e' 14 (by decide) (by decide)]
    exact hC.2.1
  · rw [e' 14 (by decide) (by decide), f14 2 (by decide) (by decide)]
    exact a9
  · rw [e67 12 (by decide)]
    exact a10
  · rw [e 15 (by decide) (by decide), e 68 (by decide) (by decide), e 16 (by decide) (by decide), e 69 (by decide) (by decide), e 17 (by decide) (by decide), e 72 (by decide) (by decide), hm.2.1, hm.2.2.1, hm.2.2.2]
    exact a7 i (by rw [← hm.1]; exact hi)
  · rw [e' 18 (by decide) (by decide), e' 19 (by decide) (by decide), e' 20 (by decide) (by decide)]
    obtain ⟨c1, c2, c3⟩ := hC.2.2 k hk
    obtain ⟨m1, m2, m3⟩ := hM.2.2 k hk
    exact ⟨c1, m1, c2, m2, c3, m3, hs.2.2 k hk⟩
  · rcases hk with ⟨q1, q2⟩ | ⟨q1, q2⟩
    · subst q1
      subst q2
      have z : ISk s' r M2 := by
        unfold ISk
        rw [e' 14 (by decide) (by decide), e' 21 (by decide) (by decide), e' 22 (by decide) (by decide), e' 23 (by decide) (by decide), e' 24 (by decide) (by decide)]
        exact h2
      split
      · rename_i q
        have hr : r = 0 := by
          have := h2.1.symm.trans q
          exact (nI_eq (b := 0) (by have := h2.2.1; omega) (by decide)).mp this
        rw [hr] at z
        exact z
      · exact z
    · rw [if_pos q1]
      refine ISk_0 ?_ fun j hj => ?_
      · rw [e' 14 (by decide) (by decide)]
        exact q1
      · rw [e' 24 (by decide) (by decide)]
        exact q2 j hj
  · rcases hq with ⟨q1, q2⟩ | q
    · subst q1
      subst q2
      rcases hk with ⟨q1, _⟩ | ⟨q1, q2⟩
      · subst q1
        exact h3
      · unfold ISm
        rw [e 70 (by decide) (by decide), e 71 (by decide) (by decide), e 76 (by decide) (by decide), f1.2 11 (by simp)]
        exact h3
    · exact Or.inl q
section S57b
variable (d : Nat) (M : Nat → Nat → Int32) (J : Nat → Nat → Int64) (R : Nat → Nat → Option Nat) (c e nL : Nat) (xs : Nat → Int32) (D : px_H)
theorem t_tape (hI : ISv M) (v u l : Int32) : ∃ w M1 M2, px_ex px_tab (d + 3) 122 [Value.ref (13), Value.int (v), Value.int (u), Value.int (l)] (hp (M) (J) (R) (c) (e) nL xs (D)) = some (some (Value.int (w)), (hp (M1) (J) (R) (c) (e) nL xs (D))) ∧ px_ex px_tab (d + 3) 170 [Value.ref (67), Value.int (v), Value.int (u), Value.int (l)] (hp (M1) (J) (R) (c) (e) nL xs (D)) = some (some (Value.int (w)), (hp (M2) (J) (R) (c) (e) nL xs (D))) ∧ ISv M2 ∧ frm [14, 15, 16, 17, 18, 19, 20, 21, 22, 23, 24, 25, 26, 27, 68, 69, 70, 71, 72, 73, 74, 75, 76] [0, 6, 11, 12] M M2 := by
  obtain ⟨s, b, r, h1, h2, h3⟩ := hI
  have hs : ISt s := ⟨h1.1, h1.2.1, fun k hk => (h1.2.2.2.2.2.2.2.2.2.2.2 k hk).2.2.2.2.2.2⟩
  have hC : ICt s M := ⟨h1.2.2.2.2.1, h1.2.2.2.2.2.2.1, fun k hk => ⟨(h1.2.2.2.2.2.2.2.2.2.2.2 k hk).1, (h1.2.2.2.2.2.2.2.2.2.2.2 k hk).2.2.1, (h1.2.2.2.2.2.2.2.2.2.2.2 k hk).2.2.2.2.1⟩⟩
  have hM : IMt s M := ⟨h1.2.2.2.2.2.1, h1.2.2.2.2.2.2.2.1, fun k hk => ⟨(h1.2.2.2.2.2.2.2.2.2.2.2 k hk).2.1, (h1.2.2.2.2.2.2.2.2.2.2.2 k hk).2.2.2.1, (h1.2.2.2.2.2.2.2.2.2.2.2 k hk).2.2.2.2.2.1⟩⟩
  obtain ⟨M1, p1, p2, p3, p4, p5⟩ := c_addTape d M J R c e nL xs D hs hC v u l
  have hM1 : IMt s M1 := by
    unfold IMt
    rw [p3.1 73 (by decide) (by decide), p3.1 74 (by decide) (by decide), p3.1 75 (by decide) (by decide), p3.2 0 (by decide), p3.2 6 (by decide)]
    exact hM
  obtain ⟨M2, q1, q2, q3, q4⟩ := m_tape d M1 J R c e nL xs D hs hM1 v u l
  refine ⟨(tpA s v u l).1, M1, M2, ?_, q1, ISv_t h1 h2 h3 (ISt_A hs v u l) (tpA_m s v u l) p2 p3 p4 p5 q2 q3 q4, ?_⟩
  · rw [xX11_tape]
    simp only [px_bd_s, px_psh_s, px_psh_n, px_vb_s, px_ib_s, px_wb_s, px_bo_s, px_bo_n, Bool.cond_decide, cond_true, cond_false, ite_not, Bool.and_true, if_true, if_false, not_true_eq_false, not_false_eq_true, i10, eq_self, decide_true, decide_false, Bool.or_true, Bool.true_or, Bool.or_false, Bool.false_or, eX11_tape_0, p1]
    simp only [px_bd_s, px_psh_s, px_psh_n, px_vb_s, px_ib_s, px_wb_s, px_bo_s, px_bo_n, Bool.cond_decide, cond_true, cond_false, ite_not, Bool.and_true, if_true, if_false, not_true_eq_false, not_false_eq_true, i10, eq_self, decide_true, decide_false, Bool.or_true, Bool.true_or, Bool.or_false, Bool.false_or, eX11_tape_0, eX11_tape_0_6]
  · exact (p3.mono (by decide) (by decide)).tr (q3.mono (by decide) (by decide))
end S57b
