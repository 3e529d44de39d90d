/-! PART 68: TAPES -/
/-- what is left over when tapes were added on the class's side -/
def CtK (s s' : Sv) (M M1 : Nat → Nat → Int32) : Prop := ICt s' M1 ∧ frm [14, 18, 19, 20, 24] [] M M1 ∧ (∀ k, k ≠ 1 → k ≠ 9 → M1 14 k = M 14 k) ∧ (M1 = M ∧ s' = s ∨ M1 14 9 = 0 ∧ ∀ j, j < St s' → M1 24 j = nI 99)
def MtK (s s' : Sv) (M M1 : Nat → Nat → Int32) : Prop := IMt s' M1 ∧ frm [73, 74, 75] [6, 11] M M1 ∧ (M1 = M ∧ s' = s ∨ M1 67 11 = 0)
theorem CtK.rf {s : Sv} {M : Nat → Nat → Int32} (h : ICt s M) : CtK s s M M := ⟨h, frm.rf _ _ _, fun _ _ _ => rfl, Or.inl ⟨rfl, rfl⟩⟩
theorem MtK.rf {s : Sv} {M : Nat → Nat → Int32} (h : IMt s M) : MtK s s M M := ⟨h, frm.rf _ _ _, Or.inl ⟨rfl, rfl⟩⟩
theorem CtK.tr {s s' s'' : Sv} {M M1 M2 : Nat → Nat → Int32} (h : CtK s s' M M1) (h2 : CtK s' s'' M1 M2) : CtK s s'' M M2 := by
  refine ⟨h2.1, h.2.1.tr h2.2.1, fun k h1 h9 => (h2.2.2.1 k h1 h9).trans (h.2.2.1 k h1 h9), ?_⟩
  rcases h2.2.2.2 with ⟨q1, q2⟩ | q
  · subst q1
    subst q2
    exact h.2.2.2
  · exact Or.inr q
theorem MtK.tr {s s' s'' : Sv} {M M1 M2 : Nat → Nat → Int32} (h : MtK s s' M M1) (h2 : MtK s' s'' M1 M2) : MtK s s'' M M2 := by
  refine ⟨h2.1, h.2.1.tr h2.2.1, ?_⟩
  rcases h2.2.2 with ⟨q1, q2⟩ | q
  · subst q1
    subst q2
    exact h.2.2
  · exact Or.inr q
def tpL (W : Nat → Int32) (i : Nat) : Prop := W i = 40001 ∨ W (i + 1) = 40001 ∨ W (i + 2) = 40001
def tpB (W : Nat → Int32) (s : Sv) (i : Nat) : Int32 × Sv := if W i = 40001 ∨ W (i + 1) = 40001 ∨ W (i + 2) = 40001 then (nI (St s), s) else tpA s (W i / 2) (W (i + 1) / 2) (W (i + 2) / 2)
def tps (W : Nat → Int32) (n : Nat) : Nat → Nat → Sv → Nat → Int32 × Sv
  | _, 0, s, _ => (nI (St s), s)
  | 0, _ + 1, s, _ => (-12, s)
  | g + 1, r + 1, s, i => if i + 3 ≤ n then (if (tpB W s i).1 < 0 then tpB W s i else tps W n g r (tpB W s i).2 (i + 3)) else (-12, s)
theorem tps_z (W : Nat → Int32) (n g : Nat) (s : Sv) (i : Nat) : tps W n g 0 s i = (nI (St s), s) := by
  cases g <;> rfl
theorem tps_0 (W : Nat → Int32) (n r : Nat) (s : Sv) (i : Nat) : tps W n 0 (r + 1) s i = (-12, s) := rfl
theorem tps_s (W : Nat → Int32) (n g r : Nat) (s : Sv) (i : Nat) : tps W n (g + 1) (r + 1) s i = if i + 3 ≤ n then (if (tpB W s i).1 < 0 then tpB W s i else tps W n g r (tpB W s i).2 (i + 3)) else (-12, s) := rfl
theorem tpB_t {s : Sv} (h : ISt s) (W : Nat → Int32) (i : Nat) : ISt (tpB W s i).2 ∧ Sm (tpB W s i).2 = Sm s ∧ Sx (tpB W s i).2 = Sx s ∧ Sy (tpB W s i).2 = Sy s ∧ Sf (tpB W s i).2 = Sf s := by
  unfold tpB
  split
  · exact ⟨h, rfl, rfl, rfl, rfl⟩
  · exact ⟨ISt_A h _ _ _, tpA_m s _ _ _⟩
theorem tps_t (W : Nat → Int32) (n : Nat) : ∀ (g r : Nat) (s : Sv) (i : Nat), ISt s → ISt (tps W n g r s i).2 ∧ Sm (tps W n g r s i).2 = Sm s ∧ Sx (tps W n g r s i).2 = Sx s ∧ Sy (tps W n g r s i).2 = Sy s ∧ Sf (tps W n g r s i).2 = Sf s
  | g, 0, s, i, h => by
    rw [tps_z]
    exact ⟨h, rfl, rfl, rfl, rfl⟩
  | 0, r + 1, s, i, h => ⟨h, rfl, rfl, rfl, rfl⟩
  | g + 1, r + 1, s, i, h => by
    rw [tps_s]
    obtain ⟨b1, b2, b3, b4, b5⟩ := tpB_t h W i
    split
    · split
      · exact ⟨b1, b2, b3, b4, b5⟩
      · obtain ⟨c1, c2, c3, c4, c5⟩ := tps_t W n g r (tpB W s i).2 (i + 3) b1
        exact ⟨c1, c2.trans b2, c3.trans b3, c4.trans b4, c5.trans b5⟩
    · exact ⟨h, rfl, rfl, rfl, rfl⟩
section S68
variable (d : Nat) (J : Nat → Nat → Int64) (R : Nat → Nat → Option Nat) (c e nL : Nat) (xs : Nat → Int32) (D : px_H)
theorem c_tapeFrom (M : Nat → Nat → Int32) {s : Sv} (hs : ISt s) (hI : ICt s M) {h i : Nat} (hh : h < 4) (hi : i + 3 ≤ 40) : ∃ M1, px_ex px_tab (d + 3) 124 [Value.ref (13), Value.int (nI h), Value.int (nI i)] (hp (M) (J) (R) (c) (e) nL xs (D)) = some (some (Value.int ((tpB (M (63 + h)) s i).1)), (hp (M1) (J) (R) (c) (e) nL xs (D))) ∧ CtK s (tpB (M (63 + h)) s i).2 M M1 := by
  unfold tpB
  by_cases h0 : M (63 + h) i = 40001
  · refine ⟨M, ?_, ?_⟩
    · rw [xX11_tapeFrom, if_pos (Or.inl h0)]
      simp (disch := omega) only [px_bd_s, px_psh_s, px_psh_n, px_vb_s, px_ib_s, px_wb_s, px_bo_s, px_bo_n, Bool.cond_decide, cond_true, cond_false, ite_not, Bool.and_true, if_true, if_false, not_true_eq_false, not_false_eq_true, i10, eq_self, decide_true, decide_false, Bool.or_true, Bool.true_or, Bool.or_false, Bool.false_or, Bool.false_eq_true, eX11_tapeFrom_0, eX11_tapeFrom_0_5, eX11_tapeFrom_40, eX11_tapeFrom_0_13, eX11_tapeFrom_0_21, eX11_tapeFrom_48, eX11_tapeFrom_48_7, eX11_tapeFrom_48_14, eX11_tapeFrom_48_21, eX11_tapeFrom_48_22, c_isNumber, h0, hI.2.1]
    · rw [if_pos (Or.inl h0)]
      exact CtK.rf hI
  · by_cases h1 : M (63 + h) (i + 1) = 40001
    · refine ⟨M, ?_, ?_⟩
      · rw [xX11_tapeFrom, if_pos (Or.inr (Or.inl h1))]
        simp (disch := omega) only [px_bd_s, px_psh_s, px_psh_n, px_vb_s, px_ib_s, px_wb_s, px_bo_s, px_bo_n, Bool.cond_decide, cond_true, cond_false, ite_not, Bool.and_true, if_true, if_false, not_true_eq_false, not_false_eq_true, i10, eq_self, decide_true, decide_false, Bool.or_true, Bool.true_or, Bool.or_false, Bool.false_or, Bool.false_eq_true, eX11_tapeFrom_0, eX11_tapeFrom_0_5, eX11_tapeFrom_40, eX11_tapeFrom_0_13, eX11_tapeFrom_0_21, eX11_tapeFrom_48, eX11_tapeFrom_48_7, eX11_tapeFrom_48_14, eX11_tapeFrom_48_21, eX11_tapeFrom_48_22, zp1, c_isNumber, h0, h1, hI.2.1]
      · rw [if_pos (Or.inr (Or.inl h1))]
        exact CtK.rf hI
    · by_cases h2 : M (63 + h) (i + 2) = 40001
      · refine ⟨M, ?_, ?_⟩
        · rw [xX11_tapeFrom, if_pos (Or.inr (Or.inr h2))]
          simp (disch := omega) only [px_bd_s, px_psh_s, px_psh_n, px_vb_s, px_ib_s, px_wb_s, px_bo_s, px_bo_n, Bool.cond_decide, cond_true, cond_false, ite_not, Bool.and_true, if_true, if_false, not_true_eq_false, not_false_eq_true, i10, eq_self, decide_true, decide_false, Bool.or_true, Bool.true_or, Bool.or_false, Bool.false_or, Bool.false_eq_true, eX11_tapeFrom_0, eX11_tapeFrom_0_5, eX11_tapeFrom_40, eX11_tapeFrom_0_13, eX11_tapeFrom_0_21, eX11_tapeFrom_48, eX11_tapeFrom_48_7, eX11_tapeFrom_48_14, eX11_tapeFrom_48_21, eX11_tapeFrom_48_22, zp1, zp2, c_isNumber, h0, h1, h2, hI.2.1]
        · rw [if_pos (Or.inr (Or.inr h2))]
          exact CtK.rf hI
      · have hn : ¬ (M (63 + h) i = 40001 ∨ M (63 + h) (i + 1) = 40001 ∨ M (63 + h) (i + 2) = 40001) := by
          rintro (q | q | q)
          · exact h0 q
          · exact h1 q
          · exact h2 q
        rw [if_neg hn]
        obtain ⟨M1, p1, p2, p3, p4, p5⟩ := c_addTape d M J R c e nL xs D hs hI (M (63 + h) i / 2) (M (63 + h) (i + 1) / 2) (M (63 + h) (i + 2) / 2)
        refine ⟨M1, ?_, p2, p3, p4, p5⟩
        rw [xX11_tapeFrom]
        simp (disch := omega) only [px_bd_s, px_psh_s, px_psh_n, px_vb_s, px_ib_s, px_wb_s, px_bo_s, px_bo_n, Bool.cond_decide, cond_true, cond_false, ite_not, Bool.and_true, if_true, if_false, not_true_eq_false, not_false_eq_true, i10, eq_self, decide_true, decide_false, Bool.or_true, Bool.true_or, Bool.or_false, Bool.false_or, Bool.false_eq_true, eX11_tapeFrom_0, eX11_tapeFrom_0_5, eX11_tapeFrom_40, eX11_tapeFrom_0_13, eX11_tapeFrom_0_21, eX11_tapeFrom_48, eX11_tapeFrom_48_7, eX11_tapeFrom_48_14, eX11_tapeFrom_48_21, zp1, zp2, c_isNumber, c_whole, h0, h1, h2]
        rw [p1]
        simp only [px_bd_s, px_psh_s, px_psh_n, px_vb_s, px_ib_s, px_wb_s, px_bo_s, px_bo_n, Bool.cond_decide, cond_true, cond_false, ite_not, Bool.and_true, if_true, if_false, not_true_eq_false, not_false_eq_true, i10, eq_self, decide_true, decide_false, Bool.or_true, Bool.true_or, Bool.or_false, Bool.false_or, Bool.false_eq_true, eX11_tapeFrom_48_22]
theorem c_tapes_l {h n N : Nat} (hh : h < 4) (hn : n ≤ 40) (hN : N < 2 ^ 31) : ∀ (g r : Nat) (s : Sv) (i k : Nat) (M : Nat → Nat → Int32) (o2 o4 o7 : Option Value), ISt s → ICt s M → M 61 h = nI n → k + r = N → 40 ≤ i + 3 * g → i < 100 → ∃ M1, px_run (px_mk (kX11_tapes (px_ex px_tab (d + 3)))) 42 ([some (Value.ref (13)), some (Value.int (nI h)), o2, some (Value.int (nI N)), o4, some (Value.int (nI i)), some (Value.int (nI k)), o7], [], (hp (M) (J) (R) (c) (e) nL xs (D))) = some (some (Value.int ((tps (M (63 + h)) n g r s i).1)), (hp (M1) (J) (R) (c) (e) nL xs (D))) ∧ CtK s (tps (M (63 + h)) n g r s i).2 M M1
  | g, 0, s, i, k, M, o2, o4, o7, hs, hI, hz, hk, hg, h100 => by
    rw [tps_z]
    refine ⟨M, ?_, CtK.rf hI⟩
    rw [eX11_tapes_42]
    simp (disch := omega) only [px_bd_s, px_psh_s, px_psh_n, px_vb_s, px_ib_s, px_wb_s, px_bo_s, px_bo_n, Bool.cond_decide, cond_true, cond_false, ite_not, Bool.and_true, if_true, if_false, not_true_eq_false, not_false_eq_true, i10, eq_self, decide_true, decide_false, Bool.or_true, Bool.true_or, Bool.or_false, Bool.false_or, Bool.false_eq_true, nI_leI, if_pos, eX11_tapes_105, hI.2.1]
  | 0, r + 1, s, i, k, M, o2, o4, o7, hs, hI, hz, hk, hg, h100 => by
    rw [tps_0]
    refine ⟨M, ?_, CtK.rf hI⟩
    have x1 : (nI i < 0 ∨ M 61 h ≤ nI i) ↔ True := by
      rw [hz]
      exact ⟨fun _ => trivial, fun _ => Or.inr ((nI_leI (by omega) (by omega)).mpr (by omega))⟩
    rw [eX11_tapes_42]
    simp (disch := omega) only [px_bd_s, px_psh_s, px_psh_n, px_vb_s, px_ib_s, px_wb_s, px_bo_s, px_bo_n, Bool.cond_decide, cond_true, cond_false, ite_not, Bool.and_true, if_true, if_false, not_true_eq_false, not_false_eq_true, i10, eq_self, decide_true, decide_false, Bool.or_true, Bool.true_or, Bool.or_false, Bool.false_or, Bool.false_eq_true, nI_leI, if_neg, c_holds, x1, eX11_tapes_42_8, eX11_tapes_76]
  | g + 1, r + 1, s, i, k, M, o2, o4, o7, hs, hI, hz, hk, hg, h100 => by
    rw [tps_s]
    by_cases hi : i + 3 ≤ n
    · rw [if_pos hi]
      obtain ⟨M1, q1, q2⟩ := c_tapeFrom d J R c e nL xs D M hs hI hh (i := i) (by omega)
      have x1 : (nI i < 0 ∨ M 61 h ≤ nI i) ↔ False := by
        rw [hz, nI_leI (by omega) (by omega)]
        refine ⟨fun q => ?_, fun q => q.elim⟩
        rcases q with q | q
        · exact nI_pos (by omega) q
        · omega
      have x2 : (nI (i + 2) < 0 ∨ M 61 h ≤ nI (i + 2)) ↔ False := by
        rw [hz, nI_leI (by omega) (by omega)]
        refine ⟨fun q => ?_, fun q => q.elim⟩
        rcases q with q | q
        · exact nI_pos (by omega) q
        · omega
      by_cases hb : (tpB (M (63 + h)) s i).1 < 0
      · rw [if_pos hb]
        refine ⟨M1, ?_, q2⟩
        rw [eX11_tapes_42]
        simp (disch := omega) only [px_bd_s, px_psh_s, px_psh_n, px_vb_s, px_ib_s, px_wb_s, px_bo_s, px_bo_n, Bool.cond_decide, cond_true, cond_false, ite_not, Bool.and_true, if_true, if_false, not_true_eq_false, not_false_eq_true, i10, eq_self, decide_true, decide_false, Bool.or_true, Bool.true_or, Bool.or_false, Bool.false_or, Bool.false_eq_true, nI_leI, if_neg, c_holds, x1, x2, zp2, eX11_tapes_42_8, eX11_tapes_42_16, eX11_tapes_79]
        rw [q1]
        simp only [px_bd_s, px_psh_s, px_psh_n, px_vb_s, px_ib_s, px_wb_s, px_bo_s, px_bo_n, Bool.cond_decide, cond_true, cond_false, ite_not, Bool.and_true, if_true, if_false, not_true_eq_false, not_false_eq_true, i10, eq_self, decide_true, decide_false, Bool.or_true, Bool.true_or, Bool.or_false, Bool.false_or, Bool.false_eq_true, eX11_tapes_79_4, Int32.not_le.mpr hb]
      · rw [if_neg hb]
        have e63 : M1 (63 + h) = M (63 + h) := q2.2.1.1 _ (by omega) (by simp; omega)
        have e61 : M1 61 = M 61 := q2.2.1.1 61 (by decide) (by decide)
        obtain ⟨M2, p1, p2⟩ := c_tapes_l hh hn hN g r (tpB (M (63 + h)) s i).2 (i + 3) (k + 1) M1 none none none (tpB_t hs _ _).1 q2.1 (by rw [e61]; exact hz) (by omega) (by omega) (by omega)
        rw [e63] at p1 p2
        refine ⟨M2, ?_, q2.tr p2⟩
        rw [eX11_tapes_42]
        simp (disch := omega) only [px_bd_s, px_psh_s, px_psh_n, px_vb_s, px_ib_s, px_wb_s, px_bo_s, px_bo_n, Bool.cond_decide, cond_true, cond_false, ite_not, Bool.and_true, if_true, if_false, not_true_eq_false, not_false_eq_true, i10, eq_self, decide_true, decide_false, Bool.or_true, Bool.true_or, Bool.or_false, Bool.false_or, Bool.false_eq_true, nI_leI, if_neg, c_holds, x1, x2, zp2, eX11_tapes_42_8, eX11_tapes_42_16, eX11_tapes_79]
        rw [q1]
        simp only [px_bd_s, px_psh_s, px_psh_n, px_vb_s, px_ib_s, px_wb_s, px_bo_s, px_bo_n, Bool.cond_decide, cond_true, cond_false, ite_not, Bool.and_true, if_true, if_false, not_true_eq_false, not_false_eq_true, i10, eq_self, decide_true, decide_false, Bool.or_true, Bool.true_or, Bool.or_false, Bool.false_or, Bool.false_eq_true, eX11_tapes_79_4, Int32.not_lt.mp hb, eX11_tapes_96, zp3, zp1]
        exact p1
    · rw [if_neg hi]
      refine ⟨M, ?_, CtK.rf hI⟩
      rw [eX11_tapes_42]
      by_cases hj : n ≤ i
      · have x1 : (nI i < 0 ∨ M 61 h ≤ nI i) ↔ True := by
          rw [hz]
          exact ⟨fun _ => trivial, fun _ => Or.inr ((nI_leI (by omega) (by omega)).mpr hj)⟩
        simp (disch := omega) only [px_bd_s, px_psh_s, px_psh_n, px_vb_s, px_ib_s, px_wb_s, px_bo_s, px_bo_n, Bool.cond_decide, cond_true, cond_false, ite_not, Bool.and_true, if_true, if_false, not_true_eq_false, not_false_eq_true, i10, eq_self, decide_true, decide_false, Bool.or_true, Bool.true_or, Bool.or_false, Bool.false_or, Bool.false_eq_true, nI_leI, if_neg, c_holds, x1, eX11_tapes_42_8, eX11_tapes_76]
      · have x1 : (nI i < 0 ∨ M 61 h ≤ nI i) ↔ False := by
          rw [hz, nI_leI (by omega) (by omega)]
          refine ⟨fun q => ?_, fun q => q.elim⟩
          rcases q with q | q
          · exact nI_pos (by omega) q
          · omega
        have x2 : (nI (i + 2) < 0 ∨ M 61 h ≤ nI (i + 2)) ↔ True := by
          rw [hz]
          exact ⟨fun _ => trivial, fun _ => Or.inr ((nI_leI (by omega) (by omega)).mpr (by omega))⟩
        simp (disch := omega) only [px_bd_s, px_psh_s, px_psh_n, px_vb_s, px_ib_s, px_wb_s, px_bo_s, px_bo_n, Bool.cond_decide, cond_true, cond_false, ite_not, Bool.and_true, if_true, if_false, not_true_eq_false, not_false_eq_true, i10, eq_self, decide_true, decide_false, Bool.or_true, Bool.true_or, Bool.or_false, Bool.false_or, Bool.false_eq_true, nI_leI, if_neg, c_holds, x1, x2, zp2, eX11_tapes_42_8, eX11_tapes_42_16, eX11_tapes_76]
theorem m_tapes_l {h n f N : Nat} {W : Nat → Int32} (hh : h < 4) (hn : n ≤ 40) (hN : N < 2 ^ 31) (hf : f < 40) : ∀ (g r : Nat) (s : Sv) (k : Nat) (M : Nat → Nat → Int32) (o5 o6 o7 o8 : Option Value), ISt s → IMt s M → M 103 h = nI n → (∀ i, i < n → ((M 105 (40 * h + i) = 0 ∧ W i = M 104 (40 * h + i) ∧ W i ≠ 40001) ∨ (M 105 (40 * h + i) = 1 ∧ W i = 40001))) → k + r = N → 40 ≤ f + 3 * k + 3 * g → f + 3 * k < 100 → ∃ M1, px_run (px_mk (kX12_tapes (px_ex px_tab (d + 3)))) 53 ([some (Value.ref (67)), some (Value.int (nI h)), some (Value.int (nI f)), some (Value.int (nI N)), some (Value.int (nI k)), o5, o6, o7, o8], [], (hp (M) (J) (R) (c) (e) nL xs (D))) = some (some (Value.int ((tps W n g r s (f + 3 * k)).1)), (hp (M1) (J) (R) (c) (e) nL xs (D))) ∧ MtK s (tps W n g r s (f + 3 * k)).2 M M1
  | g, 0, s, k, M, o5, o6, o7, o8, hs, hI, hz, hw, hk, hg, h100 => by
    rw [tps_z]
    refine ⟨M, ?_, MtK.rf hI⟩
    rw [eX12_tapes_53]
    simp (disch := omega) only [px_bd_s, px_psh_s, px_psh_n, px_vb_s, px_ib_s, px_wb_s, px_bo_s, px_bo_n, Bool.cond_decide, cond_true, cond_false, ite_not, Bool.and_true, if_true, if_false, not_true_eq_false, not_false_eq_true, i10, eq_self, decide_true, decide_false, Bool.or_true, Bool.true_or, Bool.or_false, Bool.false_or, Bool.false_eq_true, nI_leI, if_pos, eX12_tapes_198, hI.2.1]
  | 0, r + 1, s, k, M, o5, o6, o7, o8, hs, hI, hz, hw, hk, hg, h100 => by
    rw [tps_0]
    refine ⟨M, ?_, MtK.rf hI⟩
    have ei : nI f + 3 * nI k = nI (f + 3 * k) := by
      rw [show (3 : Int32) * nI k = nI (3 * k) from pk_mul 3 k, nI_add]
    have x1 : ¬ nI (f + 3 * k) < 0 := nI_pos (by omega)
    have x2 : ¬ nI (f + 3 * k) ≤ nI n - 3 := fun q => by
      have q1 := Int32.le_iff_toInt_le.mp q
      rw [nI_toInt (by omega), show nI n - 3 = nI n - nI 3 from rfl, pk_sub_toInt (by omega) (by decide)] at q1
      omega
    rw [eX12_tapes_53]
    simp (disch := omega) only [px_bd_s, px_psh_s, px_psh_n, px_vb_s, px_ib_s, px_wb_s, px_bo_s, px_bo_n, Bool.cond_decide, cond_true, cond_false, ite_not, Bool.and_true, if_true, if_false, not_true_eq_false, not_false_eq_true, i10, eq_self, decide_true, decide_false, Bool.or_true, Bool.true_or, Bool.or_false, Bool.false_or, Bool.false_eq_true, nI_leI, if_neg, ei, x1, x2, px_inbT, nI_clamp, hz, eX12_tapes_85]
  | g + 1, r + 1, s, k, M, o5, o6, o7, o8, hs, hI, hz, hw, hk, hg, h100 => by
    rw [tps_s]
    have ei : nI f + 3 * nI k = nI (f + 3 * k) := by
      rw [show (3 : Int32) * nI k = nI (3 * k) from pk_mul 3 k, nI_add]
    have x1 : ¬ nI (f + 3 * k) < 0 := nI_pos (by omega)
    have x2 : nI (f + 3 * k) ≤ nI n - 3 ↔ f + 3 * k + 3 ≤ n := by
      rw [Int32.le_iff_toInt_le, nI_toInt (by omega), show nI n - 3 = nI n - nI 3 from rfl, pk_sub_toInt (by omega) (by decide)]
      omega
    by_cases hi : f + 3 * k + 3 ≤ n
    · rw [if_pos hi]
      have ea : (40 : Int32) * nI h + nI (f + 3 * k) = nI (40 * h + (f + 3 * k)) := by
        rw [show (40 : Int32) * nI h = nI (40 * h) from pk_mul 40 h, nI_add]
      have w0 := hw (f + 3 * k) (by omega)
      have w1 := hw (f + 3 * k + 1) (by omega)
      have w2 := hw (f + 3 * k + 2) (by omega)
      rw [← Nat.add_assoc] at w0 w1 w2
      rw [← Nat.add_assoc] at w1 w2
      have go : ∃ (w : Int32 × Option Value × Option Value) (M1 : Nat → Nat → Int32), px_run (px_mk (kX12_tapes (px_ex px_tab (d + 3)))) 53 ([some (Value.ref (67)), some (Value.int (nI h)), some (Value.int (nI f)), some (Value.int (nI N)), some (Value.int (nI k)), o5, o6, o7, o8], [], (hp (M) (J) (R) (c) (e) nL xs (D))) = px_run (px_mk (kX12_tapes (px_ex px_tab (d + 3)))) 182 ([some (Value.ref (67)), some (Value.int (nI h)), some (Value.int (nI f)), some (Value.int (nI N)), some (Value.int (nI k)), none, some (Value.int (nI (40 * h + f + 3 * k))), w.2.1, w.2.2], [Value.int (w.1)], (hp (M1) (J) (R) (c) (e) nL xs (D))) ∧ MtK s (tpB W s (f + 3 * k)).2 M M1 ∧ (w.1 < 0 ↔ (tpB W s (f + 3 * k)).1 < 0) ∧ ((tpB W s (f + 3 * k)).1 < 0 → w.1 = (tpB W s (f + 3 * k)).1) := by
        have lk : (W (f + 3 * k) = 40001 ∨ W (f + 3 * k + 1) = 40001 ∨ W (f + 3 * k + 2) = 40001) → px_run (px_mk (kX12_tapes (px_ex px_tab (d + 3)))) 53 ([some (Value.ref (67)), some (Value.int (nI h)), some (Value.int (nI f)), some (Value.int (nI N)), some (Value.int (nI k)), o5, o6, o7, o8], [], (hp (M) (J) (R) (c) (e) nL xs (D))) = px_run (px_mk (kX12_tapes (px_ex px_tab (d + 3)))) 182 ([some (Value.ref (67)), some (Value.int (nI h)), some (Value.int (nI f)), some (Value.int (nI N)), some (Value.int (nI k)), none, some (Value.int (nI (40 * h + f + 3 * k))), some (Value.int (1)), none], [Value.int (0)], (hp (M) (J) (R) (c) (e) nL xs (D))) := by
          intro hl
          rw [eX12_tapes_53]
          simp (disch := omega) only [px_bd_s, px_psh_s, px_psh_n, px_vb_s, px_ib_s, px_wb_s, px_bo_s, px_bo_n, Bool.cond_decide, cond_true, cond_false, ite_not, Bool.and_true, if_true, if_false, not_true_eq_false, not_false_eq_true, i10, eq_self, decide_true, decide_false, Bool.or_true, Bool.true_or, Bool.or_false, Bool.false_or, Bool.false_eq_true, nI_leI, if_neg, ei, x1, x2, hi, px_inbT, nI_clamp, hz, eX12_tapes_88, ea, ← Nat.add_assoc, zp1, zp2]
          rcases w0 with ⟨a0, _, b0⟩ | ⟨a0, b0⟩
          · rcases w1 with ⟨a1, _, b1⟩ | ⟨a1, b1⟩
            · rcases w2 with ⟨a2, _, b2⟩ | ⟨a2, b2⟩
              · rcases hl with q | q | q
                · exact absurd q b0
                · exact absurd q b1
                · exact absurd q b2
              · simp only [px_bd_s, px_psh_s, px_psh_n, px_vb_s, px_ib_s, px_wb_s, px_bo_s, px_bo_n, Bool.cond_decide, cond_true, cond_false, ite_not, Bool.and_true, if_true, if_false, not_true_eq_false, not_false_eq_true, i10, eq_self, decide_true, decide_false, Bool.or_true, Bool.true_or, Bool.or_false, Bool.false_or, Bool.false_eq_true, a0, a1, a2, eX12_tapes_131, eX12_tapes_136]
            · simp only [px_bd_s, px_psh_s, px_psh_n, px_vb_s, px_ib_s, px_wb_s, px_bo_s, px_bo_n, Bool.cond_decide, cond_true, cond_false, ite_not, Bool.and_true, if_true, if_false, not_true_eq_false, not_false_eq_true, i10, eq_self, decide_true, decide_false, Bool.or_true, Bool.true_or, Bool.or_false, Bool.false_or, Bool.false_eq_true, a0, a1, eX12_tapes_131, eX12_tapes_136]
          · simp only [px_bd_s, px_psh_s, px_psh_n, px_vb_s, px_ib_s, px_wb_s, px_bo_s, px_bo_n, Bool.cond_decide, cond_true, cond_false, ite_not, Bool.and_true, if_true, if_false, not_true_eq_false, not_false_eq_true, i10, eq_self, decide_true, decide_false, Bool.or_true, Bool.true_or, Bool.or_false, Bool.false_or, Bool.false_eq_true, a0, eX12_tapes_131, eX12_tapes_136]
        unfold tpB
        by_cases hl : W (f + 3 * k) = 40001 ∨ W (f + 3 * k + 1) = 40001 ∨ W (f + 3 * k + 2) = 40001
        · rw [if_pos hl]
          refine ⟨(0, some (.int 1), none), M, lk hl, MtK.rf hI, ⟨fun q => absurd q (by decide), fun q => absurd q (nI_pos (by have := hs.2.1; omega))⟩, fun q => absurd q (nI_pos (by have := hs.2.1; omega))⟩
        · rw [if_neg hl]
          have l0 : M 105 (40 * h + f + 3 * k) = 0 ∧ W (f + 3 * k) = M 104 (40 * h + f + 3 * k) := by
            rcases w0 with ⟨a, b, _⟩ | ⟨_, b⟩
            · exact ⟨a, b⟩
            · exact absurd (Or.inl b) hl
          have l1 : M 105 (40 * h + f + 3 * k + 1) = 0 ∧ W (f + 3 * k + 1) = M 104 (40 * h + f + 3 * k + 1) := by
            rcases w1 with ⟨a, b, _⟩ | ⟨_, b⟩
            · exact ⟨a, b⟩
            · exact absurd (Or.inr (Or.inl b)) hl
          have l2 : M 105 (40 * h + f + 3 * k + 2) = 0 ∧ W (f + 3 * k + 2) = M 104 (40 * h + f + 3 * k + 2) := by
            rcases w2 with ⟨a, b, _⟩ | ⟨_, b⟩
            · exact ⟨a, b⟩
            · exact absurd (Or.inr (Or.inr b)) hl
          obtain ⟨M1, p1, p2, p3, p4⟩ := m_tape d M J R c e nL xs D hs hI (W (f + 3 * k) / 2) (W (f + 3 * k + 1) / 2) (W (f + 3 * k + 2) / 2)
          refine ⟨((tpA s (W (f + 3 * k) / 2) (W (f + 3 * k + 1) / 2) (W (f + 3 * k + 2) / 2)).1, none, none), M1, ?_, ⟨p2, p3, p4⟩, Iff.rfl, fun _ => rfl⟩
          rw [eX12_tapes_53]
          simp (disch := omega) only [px_bd_s, px_psh_s, px_psh_n, px_vb_s, px_ib_s, px_wb_s, px_bo_s, px_bo_n, Bool.cond_decide, cond_true, cond_false, ite_not, Bool.and_true, if_true, if_false, not_true_eq_false, not_false_eq_true, i10, eq_self, decide_true, decide_false, Bool.or_true, Bool.true_or, Bool.or_false, Bool.false_or, Bool.false_eq_true, nI_leI, if_neg, ei, x1, x2, hi, px_inbT, nI_clamp, hz, eX12_tapes_88, ea, ← Nat.add_assoc, zp1, zp2, l0.1, l1.1, l2.1, eX12_tapes_135, eX12_tapes_136, eX12_tapes_147, ← l0.2, ← l1.2, ← l2.2]
          rw [p1]
          simp only [px_bd_s, px_psh_s, px_psh_n, px_vb_s, px_ib_s, px_wb_s, px_bo_s, px_bo_n, Bool.cond_decide, cond_true, cond_false, ite_not, Bool.and_true, if_true, if_false, not_true_eq_false, not_false_eq_true, i10, eq_self, decide_true, decide_false, Bool.or_true, Bool.true_or, Bool.or_false, Bool.false_or, Bool.false_eq_true, eX12_tapes_147_24]
      obtain ⟨⟨w, w7, w8⟩, M1, g1, g2, g3, g4⟩ := go
      by_cases hb : (tpB W s (f + 3 * k)).1 < 0
      · rw [if_pos hb]
        refine ⟨M1, ?_, g2⟩
        rw [g1]
        have hw' : w = (tpB W s (f + 3 * k)).1 := g4 hb
        rw [hw', eX12_tapes_182]
        simp only [px_bd_s, px_psh_s, px_psh_n, px_vb_s, px_ib_s, px_wb_s, px_bo_s, px_bo_n, Bool.cond_decide, cond_true, cond_false, ite_not, Bool.and_true, if_true, if_false, not_true_eq_false, not_false_eq_true, i10, eq_self, decide_true, decide_false, Bool.or_true, Bool.true_or, Bool.or_false, Bool.false_or, Bool.false_eq_true, Int32.not_le.mpr hb]
      · rw [if_neg hb]
        have e103 : M1 103 = M 103 := g2.2.1.1 103 (by decide) (by decide)
        have e104 : M1 104 = M 104 := g2.2.1.1 104 (by decide) (by decide)
        have e105 : M1 105 = M 105 := g2.2.1.1 105 (by decide) (by decide)
        obtain ⟨M2, p1, p2⟩ := m_tapes_l hh hn hN hf g r (tpB W s (f + 3 * k)).2 (k + 1) M1 none none none none (tpB_t hs _ _).1 g2.1 (by rw [e103]; exact hz) (by rw [e104, e105]; exact hw) (by omega) (by omega) (by omega)
        rw [show f + 3 * (k + 1) = f + 3 * k + 3 from by omega] at p1 p2
        refine ⟨M2, ?_, g2.tr p2⟩
        have hw' : ¬ w < 0 := fun q => hb (g3.mp q)
        rw [g1, eX12_tapes_182]
        simp only [px_bd_s, px_psh_s, px_psh_n, px_vb_s, px_ib_s, px_wb_s, px_bo_s, px_bo_n, Bool.cond_decide, cond_true, cond_false, ite_not, Bool.and_true, if_true, if_false, not_true_eq_false, not_false_eq_true, i10, eq_self, decide_true, decide_false, Bool.or_true, Bool.true_or, Bool.or_false, Bool.false_or, Bool.false_eq_true, Int32.not_lt.mp hw', eX12_tapes_192, zp1]
        exact p1
    · rw [if_neg hi]
      refine ⟨M, ?_, MtK.rf hI⟩
      rw [eX12_tapes_53]
      simp (disch := omega) only [px_bd_s, px_psh_s, px_psh_n, px_vb_s, px_ib_s, px_wb_s, px_bo_s, px_bo_n, Bool.cond_decide, cond_true, cond_false, ite_not, Bool.and_true, if_true, if_false, not_true_eq_false, not_false_eq_true, i10, eq_self, decide_true, decide_false, Bool.or_true, Bool.true_or, Bool.or_false, Bool.false_or, Bool.false_eq_true, nI_leI, if_neg, ei, x1, x2, hi, px_inbT, nI_clamp, hz, eX12_tapes_85]
end S68
section S68b
variable (d : Nat) (M : Nat → Nat → Int32) (J : Nat → Nat → Int64) (R : Nat → Nat → Option Nat) (c e nL : Nat) (xs : Nat → Int32) (D : px_H)
theorem t_tapes (hI : ISv M) (hS : ISh M) (v f u : Int32) : ∃ w M1 M2, px_ex px_tab (d + 4) 123 [Value.ref (13), Value.int (v), Value.int (f), Value.int (u)] (hp (M) (J) (R) (c) (e) nL xs (D)) = some (some (Value.int (w)), (hp (M1) (J) (R) (c) (e) nL xs (D))) ∧ px_ex px_tab (d + 4) 171 [Value.ref (67), Value.int (v), Value.int (f), Value.int (u)] (hp (M1) (J) (R) (c) (e) nL xs (D)) = some (some (Value.int (w)), (hp (M2) (J) (R) (c) (e) nL xs (D))) ∧ ISv M2 ∧ frm [14, 15, 16, 17, 18, 19, 20, 21, 22, 23, 24, 25, 26, 27, 68, 69, 70, 71, 72, 73, 74, 75, 76] [0, 6, 11, 12] M M2 := by
  rcases pk_ix v (n := 4) (by decide) with hv | hv | ⟨h, hh, rfl⟩
  · refine ⟨-2, M, M, ?_, ?_, hI, frm.rf _ _ _⟩
    · rw [xX11_tapes]
      simp only [px_bd_s, px_psh_s, px_psh_n, px_vb_s, px_ib_s, px_wb_s, px_bo_s, px_bo_n, Bool.cond_decide, cond_true, cond_false, ite_not, Bool.and_true, if_true, if_false, not_true_eq_false, not_false_eq_true, i10, eq_self, decide_true, decide_false, Bool.or_true, Bool.true_or, Bool.or_false, Bool.false_or, Bool.false_eq_true, eX11_tapes_0, eX11_tapes_0_4, eX11_tapes_15, c_has_n _ _ _ _ _ _ _ _ _ (Or.inl hv)]
    · rw [xX12_tapes]
      simp only [px_bd_s, px_psh_s, px_psh_n, px_vb_s, px_ib_s, px_wb_s, px_bo_s, px_bo_n, Bool.cond_decide, cond_true, cond_false, ite_not, Bool.and_true, if_true, if_false, not_true_eq_false, not_false_eq_true, i10, eq_self, decide_true, decide_false, Bool.or_true, Bool.true_or, Bool.or_false, Bool.false_or, Bool.false_eq_true, eX12_tapes_0, eX12_tapes_0_2, eX12_tapes_11, m_isSheet_n _ _ _ _ _ _ _ _ _ (Or.inl hv)]
  · refine ⟨-2, M, M, ?_, ?_, hI, frm.rf _ _ _⟩
    · rw [xX11_tapes]
      simp only [px_bd_s, px_psh_s, px_psh_n, px_vb_s, px_ib_s, px_wb_s, px_bo_s, px_bo_n, Bool.cond_decide, cond_true, cond_false, ite_not, Bool.and_true, if_true, if_false, not_true_eq_false, not_false_eq_true, i10, eq_self, decide_true, decide_false, Bool.or_true, Bool.true_or, Bool.or_false, Bool.false_or, Bool.false_eq_true, eX11_tapes_0, eX11_tapes_0_4, eX11_tapes_15, c_has_n _ _ _ _ _ _ _ _ _ (Or.inr hv)]
    · rw [xX12_tapes]
      simp only [px_bd_s, px_psh_s, px_psh_n, px_vb_s, px_ib_s, px_wb_s, px_bo_s, px_bo_n, Bool.cond_decide, cond_true, cond_false, ite_not, Bool.and_true, if_true, if_false, not_true_eq_false, not_false_eq_true, i10, eq_self, decide_true, decide_false, Bool.or_true, Bool.true_or, Bool.or_false, Bool.false_or, Bool.false_eq_true, eX12_tapes_0, eX12_tapes_0_2, eX12_tapes_11, m_isSheet_n _ _ _ _ _ _ _ _ _ (Or.inr hv)]
  · obtain ⟨e1, ⟨n, hn, n1, n2⟩, e2⟩ := hS h hh
    by_cases hu : u < 0
    · refine ⟨-2, M, M, ?_, ?_, hI, frm.rf _ _ _⟩
      · rw [xX11_tapes]
        simp only [px_bd_s, px_psh_s, px_psh_n, px_vb_s, px_ib_s, px_wb_s, px_bo_s, px_bo_n, Bool.cond_decide, cond_true, cond_false, ite_not, Bool.and_true, if_true, if_false, not_true_eq_false, not_false_eq_true, i10, eq_self, decide_true, decide_false, Bool.or_true, Bool.true_or, Bool.or_false, Bool.false_or, Bool.false_eq_true, eX11_tapes_0, eX11_tapes_0_4, eX11_tapes_15, c_has_y _ _ _ _ _ _ _ _ _ hh, Int32.not_le.mpr hu]
      · rw [xX12_tapes]
        simp only [px_bd_s, px_psh_s, px_psh_n, px_vb_s, px_ib_s, px_wb_s, px_bo_s, px_bo_n, Bool.cond_decide, cond_true, cond_false, ite_not, Bool.and_true, if_true, if_false, not_true_eq_false, not_false_eq_true, i10, eq_self, decide_true, decide_false, Bool.or_true, Bool.true_or, Bool.or_false, Bool.false_or, Bool.false_eq_true, eX12_tapes_0, eX12_tapes_0_2, eX12_tapes_11, m_isSheet_y _ _ _ _ _ _ _ _ _ hh, Int32.not_le.mpr hu]
    · have hu' := Int32.not_lt.mp hu
      by_cases h1 : M 102 h = -1
      · refine ⟨-11, M, M, ?_, ?_, hI, frm.rf _ _ _⟩
        · rw [xX11_tapes]
          simp only [px_bd_s, px_psh_s, px_psh_n, px_vb_s, px_ib_s, px_wb_s, px_bo_s, px_bo_n, Bool.cond_decide, cond_true, cond_false, ite_not, Bool.and_true, if_true, if_false, not_true_eq_false, not_false_eq_true, i10, eq_self, decide_true, decide_false, Bool.or_true, Bool.true_or, Bool.or_false, Bool.false_or, Bool.false_eq_true, eX11_tapes_0, eX11_tapes_0_4, eX11_tapes_18, eX11_tapes_18_4, c_has_y _ _ _ _ _ _ _ _ _ hh, hu', c_floats _ _ _ _ _ _ _ _ _ hh, e1, h1, show ¬ (-11 : Int32) = 0 from by decide]
        · rw [xX12_tapes]
          simp (disch := omega) only [px_bd_s, px_psh_s, px_psh_n, px_vb_s, px_ib_s, px_wb_s, px_bo_s, px_bo_n, Bool.cond_decide, cond_true, cond_false, ite_not, Bool.and_true, if_true, if_false, not_true_eq_false, not_false_eq_true, i10, eq_self, decide_true, decide_false, Bool.or_true, Bool.true_or, Bool.or_false, Bool.false_or, Bool.false_eq_true, eX12_tapes_0, eX12_tapes_0_2, eX12_tapes_14, eX12_tapes_37, m_isSheet_y _ _ _ _ _ _ _ _ _ hh, hu', px_inbT, nI_clamp, h1]
      · by_cases h2 : M 102 h = 2
        · obtain ⟨N, hN, rfl⟩ := nI_of hu
          rcases pk_ix f (n := 40) (by decide) with hf | hf | ⟨i, hi, rfl⟩
          · rcases Nat.eq_zero_or_pos N with q | q
            · subst q
              obtain ⟨s, b, r, k1, k2, k3⟩ := hI
              refine ⟨nI (St s), M, M, ?_, ?_, ⟨s, b, r, k1, k2, k3⟩, frm.rf _ _ _⟩
              · rw [xX11_tapes]
                simp only [px_bd_s, px_psh_s, px_psh_n, px_vb_s, px_ib_s, px_wb_s, px_bo_s, px_bo_n, Bool.cond_decide, cond_true, cond_false, ite_not, Bool.and_true, if_true, if_false, not_true_eq_false, not_false_eq_true, i10, eq_self, decide_true, decide_false, Bool.or_true, Bool.true_or, Bool.or_false, Bool.false_or, Bool.false_eq_true, eX11_tapes_0, eX11_tapes_0_4, eX11_tapes_18, eX11_tapes_18_4, eX11_tapes_36, eX11_tapes_42, eX11_tapes_105, c_has_y _ _ _ _ _ _ _ _ _ hh, hu', c_floats _ _ _ _ _ _ _ _ _ hh, e1, h1, h2, show nI 0 ≤ 0 from by decide, show ¬ (2 : Int32) = -1 from by decide, k1.2.2.2.2.2.2.1]
              · rw [xX12_tapes]
                simp (disch := omega) only [px_bd_s, px_psh_s, px_psh_n, px_vb_s, px_ib_s, px_wb_s, px_bo_s, px_bo_n, Bool.cond_decide, cond_true, cond_false, ite_not, Bool.and_true, if_true, if_false, not_true_eq_false, not_false_eq_true, i10, eq_self, decide_true, decide_false, Bool.or_true, Bool.true_or, Bool.or_false, Bool.false_or, Bool.false_eq_true, eX12_tapes_0, eX12_tapes_0_2, eX12_tapes_14, eX12_tapes_37, eX12_tapes_50, eX12_tapes_53, eX12_tapes_198, m_isSheet_y _ _ _ _ _ _ _ _ _ hh, hu', px_inbT, nI_clamp, h1, h2, show nI 0 ≤ 0 from by decide, show ¬ (2 : Int32) = -1 from by decide, k1.2.2.2.2.2.2.2.1]
            · have x0 : ¬ nI N ≤ 0 := fun z => by
                have := (nI_leI (a := N) (b := 0) hN (by decide)).mp z
                omega
              refine ⟨-12, M, M, ?_, ?_, hI, frm.rf _ _ _⟩
              · rw [xX11_tapes]
                simp only [px_bd_s, px_psh_s, px_psh_n, px_vb_s, px_ib_s, px_wb_s, px_bo_s, px_bo_n, Bool.cond_decide, cond_true, cond_false, ite_not, Bool.and_true, if_true, if_false, not_true_eq_false, not_false_eq_true, i10, eq_self, decide_true, decide_false, Bool.or_true, Bool.true_or, Bool.or_false, Bool.false_or, Bool.false_eq_true, eX11_tapes_0, eX11_tapes_0_4, eX11_tapes_18, eX11_tapes_18_4, eX11_tapes_36, eX11_tapes_42, eX11_tapes_42_8, eX11_tapes_76, c_has_y _ _ _ _ _ _ _ _ _ hh, hu', c_floats _ _ _ _ _ _ _ _ _ hh, e1, h1, h2, x0, show ¬ (2 : Int32) = -1 from by decide, c_holds _ _ _ _ _ _ _ _ _ hh, hf, true_or]
              · rw [xX12_tapes]
                simp (disch := omega) only [px_bd_s, px_psh_s, px_psh_n, px_vb_s, px_ib_s, px_wb_s, px_bo_s, px_bo_n, Bool.cond_decide, cond_true, cond_false, ite_not, Bool.and_true, if_true, if_false, not_true_eq_false, not_false_eq_true, i10, eq_self, decide_true, decide_false, Bool.or_true, Bool.true_or, Bool.or_false, Bool.false_or, Bool.false_eq_true, eX12_tapes_0, eX12_tapes_0_2, eX12_tapes_14, eX12_tapes_37, eX12_tapes_50, eX12_tapes_53, eX12_tapes_85, m_isSheet_y _ _ _ _ _ _ _ _ _ hh, hu', px_inbT, nI_clamp, h1, h2, x0, show ¬ (2 : Int32) = -1 from by decide, show f + 3 * 0 = f from Int32.add_zero f, hf]
          · have f0 : ¬ f < 0 := fun z => absurd (Int32.lt_of_le_of_lt hf z) (by decide)
            rcases Nat.eq_zero_or_pos N with q | q
            · subst q
              obtain ⟨s, b, r, k1, k2, k3⟩ := hI
              refine ⟨nI (St s), M, M, ?_, ?_, ⟨s, b, r, k1, k2, k3⟩, frm.rf _ _ _⟩
              · rw [xX11_tapes]
                simp only [px_bd_s, px_psh_s, px_psh_n, px_vb_s, px_ib_s, px_wb_s, px_bo_s, px_bo_n, Bool.cond_decide, cond_true, cond_false, ite_not, Bool.and_true, if_true, if_false, not_true_eq_false, not_false_eq_true, i10, eq_self, decide_true, decide_false, Bool.or_true, Bool.true_or, Bool.or_false, Bool.false_or, Bool.false_eq_true, eX11_tapes_0, eX11_tapes_0_4, eX11_tapes_18, eX11_tapes_18_4, eX11_tapes_36, eX11_tapes_42, eX11_tapes_105, c_has_y _ _ _ _ _ _ _ _ _ hh, hu', c_floats _ _ _ _ _ _ _ _ _ hh, e1, h1, h2, show nI 0 ≤ 0 from by decide, show ¬ (2 : Int32) = -1 from by decide, k1.2.2.2.2.2.2.1]
              · rw [xX12_tapes]
                simp (disch := omega) only [px_bd_s, px_psh_s, px_psh_n, px_vb_s, px_ib_s, px_wb_s, px_bo_s, px_bo_n, Bool.cond_decide, cond_true, cond_false, ite_not, Bool.and_true, if_true, if_false, not_true_eq_false, not_false_eq_true, i10, eq_self, decide_true, decide_false, Bool.or_true, Bool.true_or, Bool.or_false, Bool.false_or, Bool.false_eq_true, eX12_tapes_0, eX12_tapes_0_2, eX12_tapes_14, eX12_tapes_37, eX12_tapes_50, eX12_tapes_53, eX12_tapes_198, m_isSheet_y _ _ _ _ _ _ _ _ _ hh, hu', px_inbT, nI_clamp, h1, h2, show nI 0 ≤ 0 from by decide, show ¬ (2 : Int32) = -1 from by decide, k1.2.2.2.2.2.2.2.1]
            · have x0 : ¬ nI N ≤ 0 := fun z => by
                have := (nI_leI (a := N) (b := 0) hN (by decide)).mp z
                omega
              have x1 : M 61 h ≤ f := by
                rw [n1]
                exact Int32.le_trans ((nI_leI (a := n) (b := 40) (by omega) (by decide)).mpr hn) hf
              have x2 : ¬ f ≤ nI n - 3 := fun z => by
                have z1 := Int32.le_iff_toInt_le.mp (Int32.le_trans hf z)
                rw [nI_toInt (by decide), show nI n - 3 = nI n - nI 3 from rfl, pk_sub_toInt (by omega) (by decide)] at z1
                omega
              refine ⟨-12, M, M, ?_, ?_, hI, frm.rf _ _ _⟩
              · rw [xX11_tapes]
                simp only [px_bd_s, px_psh_s, px_psh_n, px_vb_s, px_ib_s, px_wb_s, px_bo_s, px_bo_n, Bool.cond_decide, cond_true, cond_false, ite_not, Bool.and_true, if_true, if_false, not_true_eq_false, not_false_eq_true, i10, eq_self, decide_true, decide_false, Bool.or_true, Bool.true_or, Bool.or_false, Bool.false_or, Bool.false_eq_true, eX11_tapes_0, eX11_tapes_0_4, eX11_tapes_18, eX11_tapes_18_4, eX11_tapes_36, eX11_tapes_42, eX11_tapes_42_8, eX11_tapes_76, c_has_y _ _ _ _ _ _ _ _ _ hh, hu', c_floats _ _ _ _ _ _ _ _ _ hh, e1, h1, h2, x0, show ¬ (2 : Int32) = -1 from by decide, c_holds _ _ _ _ _ _ _ _ _ hh, x1, or_true]
              · rw [xX12_tapes]
                simp (disch := omega) only [px_bd_s, px_psh_s, px_psh_n, px_vb_s, px_ib_s, px_wb_s, px_bo_s, px_bo_n, Bool.cond_decide, cond_true, cond_false, ite_not, Bool.and_true, if_true, if_false, not_true_eq_false, not_false_eq_true, i10, eq_self, decide_true, decide_false, Bool.or_true, Bool.true_or, Bool.or_false, Bool.false_or, Bool.false_eq_true, eX12_tapes_0, eX12_tapes_0_2, eX12_tapes_14, eX12_tapes_37, eX12_tapes_50, eX12_tapes_53, eX12_tapes_85, m_isSheet_y _ _ _ _ _ _ _ _ _ hh, hu', px_inbT, nI_clamp, h1, h2, x0, show ¬ (2 : Int32) = -1 from by decide, show f + 3 * 0 = f from Int32.add_zero f, f0, n2, x2]
          · obtain ⟨s, b, r, k1, k2, k3⟩ := hI
            have hs : ISt s := ⟨k1.1, k1.2.1, fun k hk => (k1.2.2.2.2.2.2.2.2.2.2.2 k hk).2.2.2.2.2.2⟩
            have hC : ICt s M := ⟨k1.2.2.2.2.1, k1.2.2.2.2.2.2.1, fun k hk => ⟨(k1.2.2.2.2.2.2.2.2.2.2.2 k hk).1, (k1.2.2.2.2.2.2.2.2.2.2.2 k hk).2.2.1, (k1.2.2.2.2.2.2.2.2.2.2.2 k hk).2.2.2.2.1⟩⟩
            have hM : IMt s M := ⟨k1.2.2.2.2.2.1, k1.2.2.2.2.2.2.2.1, fun k hk => ⟨(k1.2.2.2.2.2.2.2.2.2.2.2 k hk).2.1, (k1.2.2.2.2.2.2.2.2.2.2.2 k hk).2.2.2.1, (k1.2.2.2.2.2.2.2.2.2.2.2 k hk).2.2.2.2.2.1⟩⟩
            obtain ⟨M1, p1, p2⟩ := c_tapes_l d J R c e nL xs D hh hn hN 14 N s i 0 M (some (.int (nI i))) none none hs hC n1 (by omega) (by omega) (by omega)
            have hM1 : IMt s M1 := by
              unfold IMt
              rw [p2.2.1.1 73 (by decide) (by decide), p2.2.1.1 74 (by decide) (by decide), p2.2.1.1 75 (by decide) (by decide), p2.2.1.2 0 (by decide), p2.2.1.2 6 (by decide)]
              exact hM
            have e102 : M1 102 = M 102 := p2.2.1.1 102 (by decide) (by decide)
            have e103 : M1 103 = M 103 := p2.2.1.1 103 (by decide) (by decide)
            have e104 : M1 104 = M 104 := p2.2.1.1 104 (by decide) (by decide)
            have e105 : M1 105 = M 105 := p2.2.1.1 105 (by decide) (by decide)
            obtain ⟨M2, q1, q2⟩ := m_tapes_l d J R c e nL xs D (W := M (63 + h)) hh hn hN hi 14 N s 0 M1 none none none none hs hM1 (by rw [e103]; exact n2) (by
              rw [e104, e105]
              intro j hj
              exact e2 h2 j (by omega) (by rw [n1]; exact (nI_ltI (by omega) (by omega)).mpr hj)) (by omega) (by omega) (by omega)
            rw [show i + 3 * 0 = i from rfl] at q1 q2
            refine ⟨(tps (M (63 + h)) n 14 N s i).1, M1, M2, ?_, ?_, ISv_t k1 k2 k3 (tps_t _ _ _ _ _ _ hs).1 (tps_t _ _ _ _ _ _ hs).2 p2.1 p2.2.1 p2.2.2.1 p2.2.2.2 q2.1 q2.2.1 q2.2.2, ?_⟩
            · rw [xX11_tapes]
              simp only [px_bd_s, px_psh_s, px_psh_n, px_vb_s, px_ib_s, px_wb_s, px_bo_s, px_bo_n, Bool.cond_decide, cond_true, cond_false, ite_not, Bool.and_true, if_true, if_false, not_true_eq_false, not_false_eq_true, i10, eq_self, decide_true, decide_false, Bool.or_true, Bool.true_or, Bool.or_false, Bool.false_or, Bool.false_eq_true, eX11_tapes_0, eX11_tapes_0_4, eX11_tapes_18, eX11_tapes_18_4, eX11_tapes_36, c_has_y _ _ _ _ _ _ _ _ _ hh, hu', c_floats _ _ _ _ _ _ _ _ _ hh, e1, h1, h2, show ¬ (2 : Int32) = -1 from by decide]
              exact p1
            · rw [xX12_tapes]
              simp (disch := omega) only [px_bd_s, px_psh_s, px_psh_n, px_vb_s, px_ib_s, px_wb_s, px_bo_s, px_bo_n, Bool.cond_decide, cond_true, cond_false, ite_not, Bool.and_true, if_true, if_false, not_true_eq_false, not_false_eq_true, i10, eq_self, decide_true, decide_false, Bool.or_true, Bool.true_or, Bool.or_false, Bool.false_or, Bool.false_eq_true, eX12_tapes_0, eX12_tapes_0_2, eX12_tapes_14, eX12_tapes_37, eX12_tapes_50, m_isSheet_y _ _ _ _ _ _ _ _ _ hh, hu', px_inbT, nI_clamp, e102, h1, h2, show ¬ (2 : Int32) = -1 from by decide]
              exact q1
            · exact (p2.2.1.mono (by decide) (by decide)).tr (q2.2.1.mono (by decide) (by decide))
        · refine ⟨-13, M, M, ?_, ?_, hI, frm.rf _ _ _⟩
          · rw [xX11_tapes]
            simp only [px_bd_s, px_psh_s, px_psh_n, px_vb_s, px_ib_s, px_wb_s, px_bo_s, px_bo_n, Bool.cond_decide, cond_true, cond_false, ite_not, Bool.and_true, if_true, if_false, not_true_eq_false, not_false_eq_true, i10, eq_self, decide_true, decide_false, Bool.or_true, Bool.true_or, Bool.or_false, Bool.false_or, Bool.false_eq_true, eX11_tapes_0, eX11_tapes_0_4, eX11_tapes_18, eX11_tapes_18_4, c_has_y _ _ _ _ _ _ _ _ _ hh, hu', c_floats _ _ _ _ _ _ _ _ _ hh, e1, h1, h2, show ¬ (-13 : Int32) = 0 from by decide]
          · rw [xX12_tapes]
            simp (disch := omega) only [px_bd_s, px_psh_s, px_psh_n, px_vb_s, px_ib_s, px_wb_s, px_bo_s, px_bo_n, Bool.cond_decide, cond_true, cond_false, ite_not, Bool.and_true, if_true, if_false, not_true_eq_false, not_false_eq_true, i10, eq_self, decide_true, decide_false, Bool.or_true, Bool.true_or, Bool.or_false, Bool.false_or, Bool.false_eq_true, eX12_tapes_0, eX12_tapes_0_2, eX12_tapes_14, eX12_tapes_37, m_isSheet_y _ _ _ _ _ _ _ _ _ hh, hu', px_inbT, nI_clamp, h1, h2]
end S68b
