/-! PART 94: A STEP OF THE LAW (written by wip/whole/mklaw.py) -/
theorem cnd_p {α : Type} {p : Prop} [Decidable p] (h : p) (x y : α) : cond (decide p) x y = x := by
  rw [decide_eq_true h]
  rfl
theorem cnd_n {α : Type} {p : Prop} [Decidable p] (h : ¬ p) (x y : α) : cond (decide p) x y = y := by
  rw [decide_eq_false h]
  rfl
section S94
variable (M : Nat → Nat → Int32) (J : Nat → Nat → Int64) (R : Nat → Nat → Option Nat) (c e nL : Nat) (xs : Nat → Int32) (D : px_H) (k i : Nat)
theorem l_end (hL : nL ≤ 3072) (hi : nL < i + 6) (h2 : i ≤ 4000) : px_run (px_mk (kL_law (px_ex px_tab (59)))) 18 ([some (Value.ref (0)), some (Value.ref (13)), some (Value.ref (67)), some (Value.int (nI i))], [], (hp (M) (J) (R) (c) (e) nL xs (D))) = some (some (Value.int (1)), (hp (M) (J) (R) (c) (e) nL xs (D))) := by
  have x : (Int32.ofNat nL - 6 < nI i) := by
    rw [Int32.lt_iff_toInt_lt, nI_toInt (by omega), show Int32.ofNat nL - 6 = nI nL - nI 6 from rfl, pk_sub_toInt (by omega) (by decide)]
    omega
  rw [eL_law_18, cnd_p x, eL_law_1574]
theorem l_step (hL : nL ≤ 3072) (hi : i + 6 ≤ nL) (I : Inv M J R c e D k) : ∃ M2 J2 R2 c2 e2 D2, px_run (px_mk (kL_law (px_ex px_tab (59)))) 18 ([some (Value.ref (0)), some (Value.ref (13)), some (Value.ref (67)), some (Value.int (nI i))], [], (hp (M) (J) (R) (c) (e) nL xs (D))) = px_run (px_mk (kL_law (px_ex px_tab (59)))) 18 ([some (Value.ref (0)), some (Value.ref (13)), some (Value.ref (67)), some (Value.int (nI (i + 6)))], [], (hp (M2) (J2) (R2) (c2) (e2) nL xs (D2))) ∧ Inv M2 J2 R2 c2 e2 D2 (k + 1) := by
  have fin : (∃ M2 J2 R2 c2 e2 D2, px_run (px_mk (kL_law (px_ex px_tab (59)))) 18 ([some (Value.ref (0)), some (Value.ref (13)), some (Value.ref (67)), some (Value.int (nI i))], [], (hp (M) (J) (R) (c) (e) nL xs (D))) = px_run (px_mk (kL_law (px_ex px_tab (59)))) 1568 ([some (Value.ref (0)), some (Value.ref (13)), some (Value.ref (67)), some (Value.int (nI i))], [], (hp (M2) (J2) (R2) (c2) (e2) nL xs (D2))) ∧ Inv M2 J2 R2 c2 e2 D2 (k + 1)) → ∃ M2 J2 R2 c2 e2 D2, px_run (px_mk (kL_law (px_ex px_tab (59)))) 18 ([some (Value.ref (0)), some (Value.ref (13)), some (Value.ref (67)), some (Value.int (nI i))], [], (hp (M) (J) (R) (c) (e) nL xs (D))) = px_run (px_mk (kL_law (px_ex px_tab (59)))) 18 ([some (Value.ref (0)), some (Value.ref (13)), some (Value.ref (67)), some (Value.int (nI (i + 6)))], [], (hp (M2) (J2) (R2) (c2) (e2) nL xs (D2))) ∧ Inv M2 J2 R2 c2 e2 D2 (k + 1) := by
    rintro ⟨M2, J2, R2, c2, e2, D2, h1, h2⟩
    refine ⟨M2, J2, R2, c2, e2, D2, h1.trans ?_, h2⟩
    rw [eL_law_1568, show nI i + 6 = nI (i + 6) from nI_add i 6]
  apply fin
  have x : ¬ (Int32.ofNat nL - 6 < nI i) := by
    rw [Int32.lt_iff_toInt_lt, nI_toInt (by omega), show Int32.ofNat nL - 6 = nI nL - nI 6 from rfl, pk_sub_toInt (by omega) (by decide)]
    omega
  rw [eL_law_18, cnd_n x, px_inbT (show i < nL by omega) (by omega), cond_true, nI_clamp (show i < 2 ^ 31 by omega)]
  by_cases h0 : xs i &&& 63 = 0
  · rw [cnd_p h0]
    exact lc_mark M J R c e nL xs D k i hL hi I
  rw [cnd_n h0]
  by_cases h1 : xs i &&& 63 = 1
  · rw [cnd_p h1]
    exact lc_tape M J R c e nL xs D k i hL hi I
  rw [cnd_n h1]
  by_cases h2 : xs i &&& 63 = 2
  · rw [cnd_p h2]
    exact lc_tapes M J R c e nL xs D k i hL hi I
  rw [cnd_n h2]
  by_cases h3 : xs i &&& 63 = 3
  · rw [cnd_p h3]
    exact lc_bar M J R c e nL xs D k i hL hi I
  rw [cnd_n h3]
  by_cases h4 : xs i &&& 63 = 4
  · rw [cnd_p h4]
    exact lc_fit M J R c e nL xs D k i hL hi I
  rw [cnd_n h4]
  by_cases h5 : xs i &&& 63 = 5
  · rw [cnd_p h5]
    exact lc_tapeTold M J R c e nL xs D k i hL hi I
  rw [cnd_n h5]
  by_cases h6 : xs i &&& 63 = 6
  · rw [cnd_p h6]
    exact lc_sum M J R c e nL xs D k i hL hi I
  rw [cnd_n h6]
  by_cases h7 : xs i &&& 63 = 7
  · rw [cnd_p h7]
    exact lc_find M J R c e nL xs D k i hL hi I
  rw [cnd_n h7]
  by_cases h8 : xs i &&& 63 = 8
  · rw [cnd_p h8]
    exact lc_hole M J R c e nL xs D k i hL hi I
  rw [cnd_n h8]
  by_cases h9 : xs i &&& 63 = 9
  · rw [cnd_p h9]
    exact lc_findTold M J R c e nL xs D k i hL hi I
  rw [cnd_n h9]
  by_cases h10 : xs i &&& 63 = 10
  · rw [cnd_p h10]
    exact lc_tank M J R c e nL xs D k i hL hi I
  rw [cnd_n h10]
  by_cases h11 : xs i &&& 63 = 11
  · rw [cnd_p h11]
    exact lc_tankTold M J R c e nL xs D k i hL hi I
  rw [cnd_n h11]
  by_cases h12 : xs i &&& 63 = 12
  · rw [cnd_p h12]
    exact lc_lift M J R c e nL xs D k i hL hi I
  rw [cnd_n h12]
  by_cases h13 : xs i &&& 63 = 13
  · rw [cnd_p h13]
    exact lc_why M J R c e nL xs D k i hL hi I
  rw [cnd_n h13]
  by_cases h14 : xs i &&& 63 = 14
  · rw [cnd_p h14]
    exact lc_take M J R c e nL xs D k i hL hi I
  rw [cnd_n h14]
  by_cases h15 : xs i &&& 63 = 15
  · rw [cnd_p h15]
    exact lc_diver M J R c e nL xs D k i hL hi I
  rw [cnd_n h15]
  by_cases h16 : xs i &&& 63 = 16
  · rw [cnd_p h16]
    exact lc_row M J R c e nL xs D k i hL hi I
  rw [cnd_n h16]
  by_cases h17 : xs i &&& 63 = 17
  · rw [cnd_p h17]
    exact lc_dive M J R c e nL xs D k i hL hi I
  rw [cnd_n h17]
  by_cases h18 : xs i &&& 63 = 18
  · rw [cnd_p h18]
    exact lc_cancel M J R c e nL xs D k i hL hi I
  rw [cnd_n h18]
  by_cases h19 : xs i &&& 63 = 19
  · rw [cnd_p h19]
    exact lc_under M J R c e nL xs D k i hL hi I
  rw [cnd_n h19]
  by_cases h20 : xs i &&& 63 = 20
  · rw [cnd_p h20]
    exact lc_soonest M J R c e nL xs D k i hL hi I
  rw [cnd_n h20]
  by_cases h21 : xs i &&& 63 = 21
  · rw [cnd_p h21]
    exact lc_feed M J R c e nL xs D k i hL hi I
  rw [cnd_n h21]
  by_cases h22 : xs i &&& 63 = 22
  · rw [cnd_p h22]
    exact lc_rule M J R c e nL xs D k i hL hi I
  rw [cnd_n h22]
  by_cases h23 : xs i &&& 63 = 23
  · rw [cnd_p h23]
    exact lc_worth M J R c e nL xs D k i hL hi I
  rw [cnd_n h23]
  by_cases h24 : xs i &&& 63 = 24
  · rw [cnd_p h24]
    exact lc_bond M J R c e nL xs D k i hL hi I
  rw [cnd_n h24]
  by_cases h25 : xs i &&& 63 = 25
  · rw [cnd_p h25]
    exact lc_best M J R c e nL xs D k i hL hi I
  rw [cnd_n h25]
  by_cases h26 : xs i &&& 63 = 26
  · rw [cnd_p h26]
    exact lc_joined M J R c e nL xs D k i hL hi I
  rw [cnd_n h26]
  by_cases h27 : xs i &&& 63 = 27
  · rw [cnd_p h27]
    exact lc_task M J R c e nL xs D k i hL hi I
  rw [cnd_n h27]
  by_cases h28 : xs i &&& 63 = 28
  · rw [cnd_p h28]
    exact lc_gang M J R c e nL xs D k i hL hi I
  rw [cnd_n h28]
  by_cases h29 : xs i &&& 63 = 29
  · rw [cnd_p h29]
    exact lc_plan M J R c e nL xs D k i hL hi I
  rw [cnd_n h29]
  by_cases h30 : xs i &&& 63 = 30
  · rw [cnd_p h30]
    exact lc_planned M J R c e nL xs D k i hL hi I
  rw [cnd_n h30]
  by_cases h31 : xs i &&& 63 = 31
  · rw [cnd_p h31]
    exact lc_hatches M J R c e nL xs D k i hL hi I
  rw [cnd_n h31]
  by_cases h32 : xs i &&& 63 = 32
  · rw [cnd_p h32]
    exact lc_roll M J R c e nL xs D k i hL hi I
  rw [cnd_n h32]
  by_cases h33 : xs i &&& 63 = 33
  · rw [cnd_p h33]
    exact lc_stood M J R c e nL xs D k i hL hi I
  rw [cnd_n h33]
  by_cases h34 : xs i &&& 63 = 34
  · rw [cnd_p h34]
    exact lc_stoodAt M J R c e nL xs D k i hL hi I
  rw [cnd_n h34]
  by_cases h35 : xs i &&& 63 = 35
  · rw [cnd_p h35]
    exact lc_count M J R c e nL xs D k i hL hi I
  rw [cnd_n h35]
  by_cases h36 : xs i &&& 63 = 36
  · rw [cnd_p h36]
    exact lc_sheet M J R c e nL xs D k i hL hi I
  rw [cnd_n h36]
  by_cases h37 : xs i &&& 63 = 37
  · rw [cnd_p h37]
    exact lc_cell M J R c e nL xs D k i hL hi I
  rw [cnd_n h37]
  by_cases h38 : xs i &&& 63 = 38
  · rw [cnd_p h38]
    exact lc_none M J R c e nL xs D k i hL hi I
  rw [cnd_n h38]
  by_cases h39 : xs i &&& 63 = 39
  · rw [cnd_p h39]
    exact lc_taken M J R c e nL xs D k i hL hi I
  rw [cnd_n h39]
  exact ⟨M, J, R, c, e, D, rfl, I.w, I.sh, I.fd, I.tk, I.dr, I.rw, I.dv, I.rl, I.pl, I.tx, I.sv, I.wd, gr_s I.sz (grow.rf D)⟩
end S94
theorem l_loop (nL : Nat) (xs : Nat → Int32) (hL : nL ≤ 3072) : ∀ (g i k : Nat) (M : Nat → Nat → Int32) (J : Nat → Nat → Int64) (R : Nat → Nat → Option Nat) (c e : Nat) (D : px_H), nL < i + 6 * (g + 1) → i ≤ 3078 → Inv M J R c e D k → ∃ M2 J2 R2 c2 e2 D2, px_run (px_mk (kL_law (px_ex px_tab (59)))) 18 ([some (Value.ref (0)), some (Value.ref (13)), some (Value.ref (67)), some (Value.int (nI i))], [], (hp (M) (J) (R) (c) (e) nL xs (D))) = some (some (Value.int (1)), (hp (M2) (J2) (R2) (c2) (e2) nL xs (D2))) ∧ D2.length ≤ 2 * (k + g) ∧ px_sz D2 ≤ 20 * (k + g) := by
  intro g
  induction g with
  | zero =>
    intro i k M J R c e D h1 h2 I
    exact ⟨M, J, R, c, e, D, l_end M J R c e nL xs D i hL (by omega) (by omega), I.sz⟩
  | succ g ih =>
    intro i k M J R c e D h1 h2 I
    by_cases hi : i + 6 ≤ nL
    · obtain ⟨M2, J2, R2, c2, e2, D2, q1, q2⟩ := l_step M J R c e nL xs D k i hL hi I
      obtain ⟨M3, J3, R3, c3, e3, D3, r1, r2, r3⟩ := ih (i + 6) (k + 1) M2 J2 R2 c2 e2 D2 (by omega) (by omega) q2
      exact ⟨M3, J3, R3, c3, e3, D3, q1.trans r1, by omega, by omega⟩
    · have s := I.sz
      exact ⟨M, J, R, c, e, D, l_end M J R c e nL xs D i hL (by omega) (by omega), by omega, by omega⟩
