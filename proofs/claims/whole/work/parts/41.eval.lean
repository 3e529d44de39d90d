/-! PART 41: RULES: the working of a bar, class and model -/
/-- codes of the model: 0 number, 1 name, 2 or, 3 and, 4 not, 5 less, 6 same, 7 plus, 8 minus, 9 times, 10 negate; the class's code of each -/
def cls (j : Nat) : Nat := if j = 0 then 0 else if j = 1 then 1 else if j = 2 then 10 else if j = 3 then 9 else if j = 4 then 3 else if j = 5 then 7 else if j = 6 then 8 else if j = 7 then 5 else if j = 8 then 6 else if j = 9 then 4 else 2
def tw (j : Nat) (x y : Int32) : Int32 := if j = 2 then (if ¬ x = 0 ∨ ¬ y = 0 then 1 else 0) else if j = 3 then (if ¬ x = 0 ∧ ¬ y = 0 then 1 else 0) else if j = 5 then (if x < y then 1 else 0) else if j = 6 then (if x = y then 1 else 0) else if j = 7 then x + y else if j = 8 then x - y else x * y
def stp (j : Nat) (v : Int32) (nm : Int32 → Int32) (st : Nat → Int32) (top : Nat) : Nat → Int32 := if j = 0 then upd st top v else if j = 1 then upd st top (nm v) else if j = 4 then upd st (top - 1) (if st (top - 1) = 0 then 1 else 0) else if j = 10 then upd st (top - 1) (-(st (top - 1))) else upd st (top - 2) (tw j (st (top - 2)) (st (top - 1)))
def tpp (j top : Nat) : Nat := if j = 0 ∨ j = 1 then top + 1 else if j = 4 ∨ j = 10 then top else top - 1
def okk (j top : Nat) : Prop := j ≤ 10 ∧ if j = 0 ∨ j = 1 then top < 160 else if j = 4 ∨ j = 10 then 1 ≤ top ∧ top ≤ 160 else 2 ≤ top ∧ top ≤ 160
def evs (cd : Nat → Nat) (vl : Nat → Int32) (nm : Int32 → Int32) : Nat → Nat → (Nat → Int32) → Nat → Nat → Int32
  | 0, _, st, _ => st
  | g + 1, k, st, top => evs cd vl nm g (k + 1) (stp (cd k) (vl k) nm st top) (tpp (cd k) top)
theorem evs_s (cd : Nat → Nat) (vl : Nat → Int32) (nm : Int32 → Int32) (g k : Nat) (st : Nat → Int32) (top : Nat) : evs cd vl nm (g + 1) k st top = evs cd vl nm g (k + 1) (stp (cd k) (vl k) nm st top) (tpp (cd k) top) := rfl
def wfR (cd : Nat → Nat) : Nat → Nat → Nat → Prop
  | 0, _, top => top = 1
  | g + 1, k, top => okk (cd k) top ∧ wfR cd g (k + 1) (tpp (cd k) top)
theorem stp_a {j : Nat} {v : Int32} {nm : Int32 → Int32} {st st' : Nat → Int32} {top : Nat} (hok : okk j top) (h : ∀ i, i < top → st i = st' i) : ∀ i, i < tpp j top → stp j v nm st top i = stp j v nm st' top i := by
  intro i hi
  obtain ⟨h10, hok⟩ := hok
  unfold stp
  unfold tpp at hi
  by_cases j0 : j = 0
  · rw [if_pos j0, if_pos j0]
    rw [if_pos (Or.inl j0)] at hi
    unfold upd
    split
    · rfl
    · exact h i (by omega)
  · rw [if_neg j0, if_neg j0]
    by_cases j1 : j = 1
    · rw [if_pos j1, if_pos j1]
      rw [if_pos (Or.inr j1)] at hi
      unfold upd
      split
      · rfl
      · exact h i (by omega)
    · rw [if_neg j1, if_neg j1]
      have hj01 : ¬ (j = 0 ∨ j = 1) := by omega
      rw [if_neg hj01] at hi hok
      by_cases j4 : j = 4
      · rw [if_pos j4, if_pos j4]
        rw [if_pos (Or.inl j4)] at hi hok
        rw [h (top - 1) (by omega)]
        unfold upd
        split
        · rfl
        · exact h i (by omega)
      · rw [if_neg j4, if_neg j4]
        by_cases j10 : j = 10
        · rw [if_pos j10, if_pos j10]
          rw [if_pos (Or.inr j10)] at hi hok
          rw [h (top - 1) (by omega)]
          unfold upd
          split
          · rfl
          · exact h i (by omega)
        · rw [if_neg j10, if_neg j10]
          have hj : ¬ (j = 4 ∨ j = 10) := by omega
          rw [if_neg hj] at hi hok
          rw [h (top - 1) (by omega), h (top - 2) (by omega)]
          unfold upd
          split
          · rfl
          · exact h i (by omega)
theorem evs_a (cd : Nat → Nat) (vl : Nat → Int32) (nm : Int32 → Int32) : ∀ (g k : Nat) (st st' : Nat → Int32) (top : Nat), wfR cd g k top → (∀ i, i < top → st i = st' i) → evs cd vl nm g k st top 0 = evs cd vl nm g k st' top 0
  | 0, k, st, st', top, hw, h => h 0 (by have : top = 1 := hw; omega)
  | g + 1, k, st, st', top, hw, h => by
    rw [evs_s, evs_s]
    exact evs_a cd vl nm g (k + 1) _ _ _ hw.2 (stp_a hw.1 h)
theorem evs_c {cd cd' : Nat → Nat} {vl vl' : Nat → Int32} (nm : Int32 → Int32) : ∀ (g k : Nat) (st : Nat → Int32) (top : Nat), (∀ i, k ≤ i → i < k + g → cd i = cd' i ∧ vl i = vl' i) → evs cd vl nm g k st top = evs cd' vl' nm g k st top
  | 0, _, _, _, _ => rfl
  | g + 1, k, st, top, h => by
    rw [evs_s, evs_s, (h k (Nat.le_refl _) (by omega)).1, (h k (Nat.le_refl _) (by omega)).2]
    exact evs_c nm g (k + 1) _ _ (fun i h1 h2 => h i (by omega) (by omega))
theorem wfR_c {cd cd' : Nat → Nat} : ∀ (g k top : Nat), (∀ i, k ≤ i → i < k + g → cd i = cd' i) → wfR cd g k top → wfR cd' g k top
  | 0, _, _, _, h => h
  | g + 1, k, top, hc, h => by
    refine ⟨?_, ?_⟩
    · rw [← hc k (Nat.le_refl _) (by omega)]; exact h.1
    · rw [← hc k (Nat.le_refl _) (by omega)]; exact wfR_c g (k + 1) _ (fun i h1 h2 => hc i (by omega) (by omega)) h.2
def nmv (kd sz la sq y v : Int32) : Int32 := if v = 0 then kd else if v = 1 then sz else if v = 2 then la else if v = 3 then sq - sq / 10 * 10 else if v = 4 then sq / 10 else y
section S41
variable (d : Nat) (M : Nat → Nat → Int32) (J : Nat → Nat → Int64) (R : Nat → Nat → Option Nat) (c e nL : Nat) (xs : Nat → Int32) (D : px_H)
theorem c_named {p : Nat} {F H : Nat → Int32} (h : fdAt D p F H) (v y : Int32) : px_ex px_tab (d + 2) 44 [Value.int (v), Value.ref (111 + p), Value.int (y)] (hp (M) (J) (R) (c) (e) nL xs (D)) = some (some (Value.int (nmv (F 0) (F 3) (F 2) (F 1) y v)), (hp (M) (J) (R) (c) (e) nL xs (D))) := by
  rw [xX4_named]
  simp only [px_bd_s, px_psh_s, px_psh_n, px_vb_s, px_ib_s, px_wb_s, px_bo_s, px_bo_n, Bool.cond_decide, cond_true, cond_false, ite_not, Bool.and_true, if_true, if_false, not_true_eq_false, not_false_eq_true, i10, eq_self, decide_true, decide_false, Bool.or_true, Bool.true_or, Bool.or_false, Bool.false_or, eX4_named_0, eX4_named_61, eX4_named_56, eX4_named_51, eX4_named_46, eX4_named_41, eX4_named_36, eX4_named_56_1, eX4_named_51_1, eX4_named_46_1, eX4_named_41_1, eX4_named_36_1, eX4_named_56_2, eX4_named_51_2, eX4_named_46_2, eX4_named_41_2, eX4_named_36_2, fd_isc h, fd_g0 h, fd_g2 h, fd_g3 h, c_x _ _ _ _ _ _ _ _ _ h, c_y _ _ _ _ _ _ _ _ _ h]
  unfold nmv
  repeat' split
  all_goals rfl
theorem c_truth (v : Int32) (hv : v = 0 ∨ v = 1) : px_ex px_tab (d + 1) 47 [Value.int (v)] (hp (M) (J) (R) (c) (e) nL xs (D)) = some (some (Value.int (v)), (hp (M) (J) (R) (c) (e) nL xs (D))) := by
  rw [xX4_truth]
  rcases hv with rfl | rfl
  · simp only [px_bd_s, px_psh_s, px_psh_n, px_vb_s, px_ib_s, px_wb_s, px_bo_s, px_bo_n, Bool.cond_decide, cond_true, cond_false, ite_not, Bool.and_true, if_true, if_false, not_true_eq_false, not_false_eq_true, i10, eq_self, decide_true, decide_false, Bool.or_true, Bool.true_or, Bool.or_false, Bool.false_or, eX4_truth_0, eX4_truth_8, eX4_truth_9]
  · simp only [px_bd_s, px_psh_s, px_psh_n, px_vb_s, px_ib_s, px_wb_s, px_bo_s, px_bo_n, Bool.cond_decide, cond_true, cond_false, ite_not, Bool.and_true, if_true, if_false, not_true_eq_false, not_false_eq_true, i10, eq_self, decide_true, decide_false, Bool.or_true, Bool.true_or, Bool.or_false, Bool.false_or, eX4_truth_0, eX4_truth_8, eX4_truth_9]
theorem c_ofOne {j : Nat} (hj : j = 4 ∨ j = 10) (x : Int32) : px_ex px_tab (d + 2) 45 [Value.int (nI (cls j)), Value.int (x)] (hp (M) (J) (R) (c) (e) nL xs (D)) = some (some (Value.int (if j = 4 then (if x = 0 then 1 else 0) else -x)), (hp (M) (J) (R) (c) (e) nL xs (D))) := by
  rw [xX4_ofOne]
  have t0 := c_truth d M J R c e nL xs D 0 (Or.inl rfl)
  have t1 := c_truth d M J R c e nL xs D 1 (Or.inr rfl)
  rcases hj with rfl | rfl
  · rw [show nI (cls 4) = 3 from rfl]
    by_cases h0 : x = 0
    · simp only [px_bd_s, px_psh_s, px_psh_n, px_vb_s, px_ib_s, px_wb_s, px_bo_s, px_bo_n, Bool.cond_decide, cond_true, cond_false, ite_not, Bool.and_true, if_true, if_false, not_true_eq_false, not_false_eq_true, i10, eq_self, decide_true, decide_false, Bool.or_true, Bool.true_or, Bool.or_false, Bool.false_or, eX4_ofOne_0, eX4_ofOne_10, eX4_ofOne_22, eX4_ofOne_18, eX4_ofOne_19_1, eX4_ofOne_19, show ¬ (3 : Int32) = 2 from by decide, h0, t0, t1]
    · simp only [px_bd_s, px_psh_s, px_psh_n, px_vb_s, px_ib_s, px_wb_s, px_bo_s, px_bo_n, Bool.cond_decide, cond_true, cond_false, ite_not, Bool.and_true, if_true, if_false, not_true_eq_false, not_false_eq_true, i10, eq_self, decide_true, decide_false, Bool.or_true, Bool.true_or, Bool.or_false, Bool.false_or, eX4_ofOne_0, eX4_ofOne_10, eX4_ofOne_22, eX4_ofOne_18, eX4_ofOne_19_1, eX4_ofOne_19, show ¬ (3 : Int32) = 2 from by decide, h0, t0, t1]
  · rw [show nI (cls 10) = 2 from rfl]
    simp only [px_bd_s, px_psh_s, px_psh_n, px_vb_s, px_ib_s, px_wb_s, px_bo_s, px_bo_n, Bool.cond_decide, cond_true, cond_false, ite_not, Bool.and_true, if_true, if_false, not_true_eq_false, not_false_eq_true, i10, eq_self, decide_true, decide_false, Bool.or_true, Bool.true_or, Bool.or_false, Bool.false_or, eX4_ofOne_0, eX4_ofOne_10, eX4_ofOne_22, eX4_ofOne_18, eX4_ofOne_19_1, eX4_ofOne_19, show ¬ (10 : Nat) = 4 from by decide]
theorem c_ofTwo {j : Nat} (h10 : j ≤ 10) (hj : ¬ (j = 0 ∨ j = 1)) (hj2 : ¬ (j = 4 ∨ j = 10)) (x y : Int32) : px_ex px_tab (d + 2) 46 [Value.int (nI (cls j)), Value.int (x), Value.int (y)] (hp (M) (J) (R) (c) (e) nL xs (D)) = some (some (Value.int (tw j x y)), (hp (M) (J) (R) (c) (e) nL xs (D))) := by
  rw [xX4_ofTwo]
  have t0 := c_truth d M J R c e nL xs D 0 (Or.inl rfl)
  have t1 := c_truth d M J R c e nL xs D 1 (Or.inr rfl)
  unfold tw
  rcases (by omega : j = 2 ∨ j = 3 ∨ j = 5 ∨ j = 6 ∨ j = 7 ∨ j = 8 ∨ j = 9) with rfl | rfl | rfl | rfl | rfl | rfl | rfl
  · rw [show nI (cls 2) = 10 from rfl]
    by_cases h0 : x = 0
    · by_cases h1 : y = 0 <;> simp [eX4_ofTwo_0, eX4_ofTwo_97, eX4_ofTwo_80, eX4_ofTwo_66, eX4_ofTwo_52, eX4_ofTwo_48, eX4_ofTwo_44, eX4_ofTwo_40, eX4_ofTwo_105, eX4_ofTwo_109, eX4_ofTwo_92, eX4_ofTwo_93, eX4_ofTwo_75, eX4_ofTwo_76, eX4_ofTwo_61, eX4_ofTwo_62, eX4_ofTwo_110, eX4_ofTwo_93_1, eX4_ofTwo_76_1, eX4_ofTwo_62_1, eX4_ofTwo_110_1, h0, h1, t0, t1, px_bd_s, px_psh_s]
    · simp [eX4_ofTwo_0, eX4_ofTwo_97, eX4_ofTwo_80, eX4_ofTwo_66, eX4_ofTwo_52, eX4_ofTwo_48, eX4_ofTwo_44, eX4_ofTwo_40, eX4_ofTwo_105, eX4_ofTwo_109, eX4_ofTwo_92, eX4_ofTwo_93, eX4_ofTwo_75, eX4_ofTwo_76, eX4_ofTwo_61, eX4_ofTwo_62, eX4_ofTwo_110, eX4_ofTwo_93_1, eX4_ofTwo_76_1, eX4_ofTwo_62_1, eX4_ofTwo_110_1, h0, t0, t1, px_bd_s, px_psh_s]
  · rw [show nI (cls 3) = 9 from rfl]
    by_cases h0 : x = 0
    · simp [eX4_ofTwo_0, eX4_ofTwo_97, eX4_ofTwo_80, eX4_ofTwo_66, eX4_ofTwo_52, eX4_ofTwo_48, eX4_ofTwo_44, eX4_ofTwo_40, eX4_ofTwo_105, eX4_ofTwo_109, eX4_ofTwo_92, eX4_ofTwo_93, eX4_ofTwo_75, eX4_ofTwo_76, eX4_ofTwo_61, eX4_ofTwo_62, eX4_ofTwo_110, eX4_ofTwo_93_1, eX4_ofTwo_76_1, eX4_ofTwo_62_1, eX4_ofTwo_110_1, h0, t0, t1, px_bd_s, px_psh_s]
    · by_cases h1 : y = 0 <;> simp [eX4_ofTwo_0, eX4_ofTwo_97, eX4_ofTwo_80, eX4_ofTwo_66, eX4_ofTwo_52, eX4_ofTwo_48, eX4_ofTwo_44, eX4_ofTwo_40, eX4_ofTwo_105, eX4_ofTwo_109, eX4_ofTwo_92, eX4_ofTwo_93, eX4_ofTwo_75, eX4_ofTwo_76, eX4_ofTwo_61, eX4_ofTwo_62, eX4_ofTwo_110, eX4_ofTwo_93_1, eX4_ofTwo_76_1, eX4_ofTwo_62_1, eX4_ofTwo_110_1, h0, h1, t0, t1, px_bd_s, px_psh_s]
  · rw [show nI (cls 5) = 7 from rfl]
    by_cases h0 : y ≤ x
    · simp [eX4_ofTwo_0, eX4_ofTwo_97, eX4_ofTwo_80, eX4_ofTwo_66, eX4_ofTwo_52, eX4_ofTwo_48, eX4_ofTwo_44, eX4_ofTwo_40, eX4_ofTwo_105, eX4_ofTwo_109, eX4_ofTwo_92, eX4_ofTwo_93, eX4_ofTwo_75, eX4_ofTwo_76, eX4_ofTwo_61, eX4_ofTwo_62, eX4_ofTwo_110, eX4_ofTwo_93_1, eX4_ofTwo_76_1, eX4_ofTwo_62_1, eX4_ofTwo_110_1, h0, Int32.not_lt.mpr h0, t0, t1, px_bd_s, px_psh_s]
    · simp [eX4_ofTwo_0, eX4_ofTwo_97, eX4_ofTwo_80, eX4_ofTwo_66, eX4_ofTwo_52, eX4_ofTwo_48, eX4_ofTwo_44, eX4_ofTwo_40, eX4_ofTwo_105, eX4_ofTwo_109, eX4_ofTwo_92, eX4_ofTwo_93, eX4_ofTwo_75, eX4_ofTwo_76, eX4_ofTwo_61, eX4_ofTwo_62, eX4_ofTwo_110, eX4_ofTwo_93_1, eX4_ofTwo_76_1, eX4_ofTwo_62_1, eX4_ofTwo_110_1, h0, Int32.not_le.mp h0, t0, t1, px_bd_s, px_psh_s]
  · rw [show nI (cls 6) = 8 from rfl]
    by_cases h0 : x = y <;> simp [eX4_ofTwo_0, eX4_ofTwo_97, eX4_ofTwo_80, eX4_ofTwo_66, eX4_ofTwo_52, eX4_ofTwo_48, eX4_ofTwo_44, eX4_ofTwo_40, eX4_ofTwo_105, eX4_ofTwo_109, eX4_ofTwo_92, eX4_ofTwo_93, eX4_ofTwo_75, eX4_ofTwo_76, eX4_ofTwo_61, eX4_ofTwo_62, eX4_ofTwo_110, eX4_ofTwo_93_1, eX4_ofTwo_76_1, eX4_ofTwo_62_1, eX4_ofTwo_110_1, h0, t0, t1, px_bd_s, px_psh_s]
  · rw [show nI (cls 7) = 5 from rfl]
    simp [eX4_ofTwo_0, eX4_ofTwo_97, eX4_ofTwo_80, eX4_ofTwo_66, eX4_ofTwo_52, eX4_ofTwo_48, eX4_ofTwo_44, eX4_ofTwo_40, eX4_ofTwo_105, eX4_ofTwo_109, eX4_ofTwo_92, eX4_ofTwo_93, eX4_ofTwo_75, eX4_ofTwo_76, eX4_ofTwo_61, eX4_ofTwo_62, eX4_ofTwo_110, eX4_ofTwo_93_1, eX4_ofTwo_76_1, eX4_ofTwo_62_1, eX4_ofTwo_110_1]
  · rw [show nI (cls 8) = 6 from rfl]
    simp [eX4_ofTwo_0, eX4_ofTwo_97, eX4_ofTwo_80, eX4_ofTwo_66, eX4_ofTwo_52, eX4_ofTwo_48, eX4_ofTwo_44, eX4_ofTwo_40, eX4_ofTwo_105, eX4_ofTwo_109, eX4_ofTwo_92, eX4_ofTwo_93, eX4_ofTwo_75, eX4_ofTwo_76, eX4_ofTwo_61, eX4_ofTwo_62, eX4_ofTwo_110, eX4_ofTwo_93_1, eX4_ofTwo_76_1, eX4_ofTwo_62_1, eX4_ofTwo_110_1]
  · rw [show nI (cls 9) = 4 from rfl]
    simp [eX4_ofTwo_0, eX4_ofTwo_97, eX4_ofTwo_80, eX4_ofTwo_66, eX4_ofTwo_52, eX4_ofTwo_48, eX4_ofTwo_44, eX4_ofTwo_40, eX4_ofTwo_105, eX4_ofTwo_109, eX4_ofTwo_92, eX4_ofTwo_93, eX4_ofTwo_75, eX4_ofTwo_76, eX4_ofTwo_61, eX4_ofTwo_62, eX4_ofTwo_110, eX4_ofTwo_93_1, eX4_ofTwo_76_1, eX4_ofTwo_62_1, eX4_ofTwo_110_1]
theorem m_two {j : Nat} (h10 : j ≤ 10) (hj : ¬ (j = 0 ∨ j = 1)) (hj2 : ¬ (j = 4 ∨ j = 10)) (x y : Int32) : px_ex px_tab (d + 1) 228 [Value.int (nI j), Value.int (x), Value.int (y)] (hp (M) (J) (R) (c) (e) nL xs (D)) = some (some (Value.int (tw j x y)), (hp (M) (J) (R) (c) (e) nL xs (D))) := by
  rw [xX12_two]
  unfold tw
  rcases (by omega : j = 2 ∨ j = 3 ∨ j = 5 ∨ j = 6 ∨ j = 7 ∨ j = 8 ∨ j = 9) with rfl | rfl | rfl | rfl | rfl | rfl | rfl
  · rw [show nI 2 = 2 from rfl]
    by_cases h0 : x = 0
    · by_cases h1 : y = 0 <;> simp [eX12_two_0, eX12_two_102, eX12_two_98, eX12_two_94, eX12_two_83, eX12_two_72, eX12_two_58, eX12_two_44, eX12_two_92, eX12_two_93, eX12_two_81, eX12_two_82, eX12_two_70, eX12_two_71, eX12_two_52, eX12_two_56, eX12_two_57, h0, h1]
    · simp [eX12_two_0, eX12_two_102, eX12_two_98, eX12_two_94, eX12_two_83, eX12_two_72, eX12_two_58, eX12_two_44, eX12_two_92, eX12_two_93, eX12_two_81, eX12_two_82, eX12_two_70, eX12_two_71, eX12_two_52, eX12_two_56, eX12_two_57, h0]
  · rw [show nI 3 = 3 from rfl]
    by_cases h0 : x = 0
    · simp [eX12_two_0, eX12_two_102, eX12_two_98, eX12_two_94, eX12_two_83, eX12_two_72, eX12_two_58, eX12_two_44, eX12_two_92, eX12_two_93, eX12_two_81, eX12_two_82, eX12_two_70, eX12_two_71, eX12_two_52, eX12_two_56, eX12_two_57, h0]
    · by_cases h1 : y = 0 <;> simp [eX12_two_0, eX12_two_102, eX12_two_98, eX12_two_94, eX12_two_83, eX12_two_72, eX12_two_58, eX12_two_44, eX12_two_92, eX12_two_93, eX12_two_81, eX12_two_82, eX12_two_70, eX12_two_71, eX12_two_52, eX12_two_56, eX12_two_57, h0, h1]
  · rw [show nI 5 = 5 from rfl]
    by_cases h0 : y ≤ x
    · simp [eX12_two_0, eX12_two_102, eX12_two_98, eX12_two_94, eX12_two_83, eX12_two_72, eX12_two_58, eX12_two_44, eX12_two_92, eX12_two_93, eX12_two_81, eX12_two_82, eX12_two_70, eX12_two_71, eX12_two_52, eX12_two_56, eX12_two_57, h0, Int32.not_lt.mpr h0]
    · simp [eX12_two_0, eX12_two_102, eX12_two_98, eX12_two_94, eX12_two_83, eX12_two_72, eX12_two_58, eX12_two_44, eX12_two_92, eX12_two_93, eX12_two_81, eX12_two_82, eX12_two_70, eX12_two_71, eX12_two_52, eX12_two_56, eX12_two_57, h0, Int32.not_le.mp h0]
  · rw [show nI 6 = 6 from rfl]
    by_cases h0 : x = y <;> simp [eX12_two_0, eX12_two_102, eX12_two_98, eX12_two_94, eX12_two_83, eX12_two_72, eX12_two_58, eX12_two_44, eX12_two_92, eX12_two_93, eX12_two_81, eX12_two_82, eX12_two_70, eX12_two_71, eX12_two_52, eX12_two_56, eX12_two_57, h0]
  · rw [show nI 7 = 7 from rfl]
    simp [eX12_two_0, eX12_two_102, eX12_two_98, eX12_two_94, eX12_two_83, eX12_two_72, eX12_two_58, eX12_two_44, eX12_two_92, eX12_two_93, eX12_two_81, eX12_two_82, eX12_two_70, eX12_two_71, eX12_two_52, eX12_two_56, eX12_two_57]
  · rw [show nI 8 = 8 from rfl]
    simp [eX12_two_0, eX12_two_102, eX12_two_98, eX12_two_94, eX12_two_83, eX12_two_72, eX12_two_58, eX12_two_44, eX12_two_92, eX12_two_93, eX12_two_81, eX12_two_82, eX12_two_70, eX12_two_71, eX12_two_52, eX12_two_56, eX12_two_57]
  · rw [show nI 9 = 9 from rfl]
    simp [eX12_two_0, eX12_two_102, eX12_two_98, eX12_two_94, eX12_two_83, eX12_two_72, eX12_two_58, eX12_two_44, eX12_two_92, eX12_two_93, eX12_two_81, eX12_two_82, eX12_two_70, eX12_two_71, eX12_two_52, eX12_two_56, eX12_two_57]
theorem m_named {f : Nat} (hf : f < 20) (v y : Int32) : px_ex px_tab (d + 1) 229 [Value.ref (67), Value.int (v), Value.int (nI f), Value.int (y)] (hp (M) (J) (R) (c) (e) nL xs (D)) = some (some (Value.int (nmv (M 77 f) (M 80 f) (M 79 f) (M 78 f) y v)), (hp (M) (J) (R) (c) (e) nL xs (D))) := by
  rw [xX12_named]
  simp (disch := omega) only [px_bd_s, px_psh_s, px_psh_n, px_vb_s, px_ib_s, px_wb_s, px_bo_s, px_bo_n, Bool.cond_decide, cond_true, cond_false, ite_not, Bool.and_true, if_true, if_false, not_true_eq_false, not_false_eq_true, i10, eq_self, decide_true, decide_false, Bool.or_true, Bool.true_or, Bool.or_false, Bool.false_or, eX12_named_0, eX12_named_77, eX12_named_67, eX12_named_57, eX12_named_50, eX12_named_43, eX12_named_36, px_inbT, nI_clamp]
  unfold nmv
  repeat' split
  all_goals rfl
end S41
theorem zm2 {i : Nat} (h : 2 ≤ i) : nI i - 2 = nI (i - 2) := pk_sub (b := 2) h
section S41b
variable (d : Nat) (J : Nat → Nat → Int64) (R : Nat → Nat → Option Nat) (c e nL : Nat) (xs : Nat → Int32) (D : px_H)
theorem c_val_l_38 {p b E : Nat} {F H : Nat → Int32} (h : fdAt D p F H) (hb : b < 6) (hE : E ≤ 160) {cd : Nat → Nat} {vl : Nat → Int32} (y : Int32) : ∀ (g k top : Nat) (o : Option Value) (M : Nat → Nat → Int32), M 39 b = nI E → (∀ i, i < E → M 40 i = nI (cls (cd i)) ∧ M 41 i = vl i) → k + g = E → wfR cd g k top → px_run (px_mk (kX4_valueOf (px_ex px_tab (d + 2)))) 25 ([some (.ref 38), some (.int (nI b)), some (.ref (111 + p)), some (.int y), some (.int (nI top)), o, some (.int (nI k))], [], (hp M J R c e nL xs D)) = some (some (Value.int (evs cd vl (nmv (F 0) (F 3) (F 2) (F 1) y) g k (M 42) top 0)), (hp (px_uR M 42 (evs cd vl (nmv (F 0) (F 3) (F 2) (F 1) y) g k (M 42) top)) (J) (R) (c) (e) nL xs (D)))
  | 0, k, top, o, M, h1, h2, hk, hw => by
    rw [eX4_valueOf_38_25]
    simp (disch := omega) only [px_bd_s, px_psh_s, px_psh_n, px_vb_s, px_ib_s, px_wb_s, px_bo_s, px_bo_n, Bool.cond_decide, cond_true, cond_false, ite_not, Bool.and_true, if_true, if_false, not_true_eq_false, not_false_eq_true, i10, eq_self, decide_true, decide_false, Bool.or_true, Bool.true_or, Bool.or_false, Bool.false_or, px_inbT, nI_clamp, h1, nI_leI, if_pos, eX4_valueOf_38_218, show (0 : Int32) = nI 0 from rfl]
    rw [show evs cd vl (nmv (F 0) (F 3) (F 2) (F 1) y) 0 k (M 42) top = M 42 from rfl, px_uR_id]
  | g + 1, k, top, o, M, h1, h2, hk, hw => by
    obtain ⟨e2, e3⟩ := h2 k (by omega)
    obtain ⟨⟨h10, hok⟩, hw2⟩ := hw
    have fin : ∀ (top' : Nat) (st : Nat → Int32), stp (cd k) (vl k) (nmv (F 0) (F 3) (F 2) (F 1) y) (M 42) top = st → tpp (cd k) top = top' → px_run (px_mk (kX4_valueOf (px_ex px_tab (d + 2)))) 212 ([some (.ref 38), some (.int (nI b)), some (.ref (111 + p)), some (.int y), some (.int (nI top')), none, some (.int (nI k))], [], hp (px_uR M 42 st) J R c e nL xs D) = some (some (Value.int (evs cd vl (nmv (F 0) (F 3) (F 2) (F 1) y) (g + 1) k (M 42) top 0)), (hp (px_uR M 42 (evs cd vl (nmv (F 0) (F 3) (F 2) (F 1) y) (g + 1) k (M 42) top)) (J) (R) (c) (e) nL xs (D))) := by
      rintro top' st rfl rfl
      rw [eX4_valueOf_38_212, nI_1, c_val_l_38 h hb hE y g (k + 1) _ none (px_uR M 42 (stp (cd k) (vl k) (nmv (F 0) (F 3) (F 2) (F 1) y) (M 42) top)) h1 h2 (by omega) hw2, px_uR_2]
      rfl
    have cv : cls (cd k) ≤ 10 := by
      unfold cls
      repeat' split
      all_goals omega
    rw [eX4_valueOf_38_25]
    simp (disch := omega) only [px_bd_s, px_psh_s, px_psh_n, px_vb_s, px_ib_s, px_wb_s, px_bo_s, px_bo_n, Bool.cond_decide, cond_true, cond_false, ite_not, Bool.and_true, if_true, if_false, not_true_eq_false, not_false_eq_true, i10, eq_self, decide_true, decide_false, Bool.or_true, Bool.true_or, Bool.or_false, Bool.false_or, px_inbT, nI_clamp, h1, nI_leI, if_neg, e2, e3]
    by_cases j0 : cd k = 0
    · rw [if_pos (Or.inl j0)] at hok
      rw [j0, show nI (cls 0) = 0 from rfl]
      simp (disch := omega) only [px_bd_s, px_psh_s, px_psh_n, px_vb_s, px_ib_s, px_wb_s, px_bo_s, px_bo_n, Bool.cond_decide, cond_true, cond_false, ite_not, Bool.and_true, if_true, if_false, not_true_eq_false, not_false_eq_true, i10, eq_self, decide_true, decide_false, Bool.or_true, Bool.true_or, Bool.or_false, Bool.false_or, za160, if_neg, px_inbT, nI_clamp, nI_1]
      exact fin (top + 1) _ (by unfold stp; rw [if_pos j0]) (by unfold tpp; rw [if_pos (Or.inl j0)])
    · have c0 : ¬ nI (cls (cd k)) = 0 := by
        rw [ze0 (by omega)]
        unfold cls
        rw [if_neg j0]
        repeat' split
        all_goals omega
      simp only [if_neg c0]
      by_cases j1 : cd k = 1
      · rw [if_pos (Or.inr j1)] at hok
        simp (disch := omega) only [px_bd_s, px_psh_s, px_psh_n, px_vb_s, px_ib_s, px_wb_s, px_bo_s, px_bo_n, Bool.cond_decide, cond_true, cond_false, ite_not, Bool.and_true, if_true, if_false, not_true_eq_false, not_false_eq_true, i10, eq_self, decide_true, decide_false, Bool.or_true, Bool.true_or, Bool.or_false, Bool.false_or, eX4_valueOf_38_74, e2, e3, j1, show nI (cls 1) = 1 from rfl, za160, if_neg, px_inbT, nI_clamp, c_named d _ _ _ _ _ _ _ _ h, eX4_valueOf_38_74_19, nI_1]
        exact fin (top + 1) _ (by unfold stp; rw [if_neg j0, if_pos j1]) (by unfold tpp; rw [if_pos (Or.inr j1)])
      · have c1 : ¬ nI (cls (cd k)) = 1 := by
          rw [ze1 (by omega)]
          unfold cls
          rw [if_neg j0, if_neg j1]
          repeat' split
          all_goals omega
        simp (disch := omega) only [px_bd_s, px_psh_s, px_psh_n, px_vb_s, px_ib_s, px_wb_s, px_bo_s, px_bo_n, Bool.cond_decide, cond_true, cond_false, ite_not, Bool.and_true, if_true, if_false, not_true_eq_false, not_false_eq_true, i10, eq_self, decide_true, decide_false, Bool.or_true, Bool.true_or, Bool.or_false, Bool.false_or, eX4_valueOf_38_74, e2, px_inbT, nI_clamp, if_neg c1]
        have hj01 : ¬ (cd k = 0 ∨ cd k = 1) := by omega
        rw [if_neg hj01] at hok
        by_cases j4 : cd k = 4 ∨ cd k = 10
        · rw [if_pos j4] at hok
          have c3 : ¬ 3 < nI (cls (cd k)) := by
            rw [zb3 (by omega)]
            rcases j4 with q | q <;> rw [q] <;> decide
          simp (disch := omega) only [px_bd_s, px_psh_s, px_psh_n, px_vb_s, px_ib_s, px_wb_s, px_bo_s, px_bo_n, Bool.cond_decide, cond_true, cond_false, ite_not, Bool.and_true, if_true, if_false, not_true_eq_false, not_false_eq_true, i10, eq_self, decide_true, decide_false, Bool.or_true, Bool.true_or, Bool.or_false, Bool.false_or, eX4_valueOf_38_118, e2, px_inbT, nI_clamp, if_neg c3, zd1, if_neg, zm1, c_ofOne d _ _ _ _ _ _ _ _ j4, eX4_valueOf_38_118_25]
          refine fin top _ ?_ (by unfold tpp; rw [if_neg hj01, if_pos j4])
          unfold stp
          rw [if_neg j0, if_neg j1]
          rcases j4 with q | q
          · rw [if_pos q, if_pos q]
          · rw [if_neg (show ¬ cd k = 4 by omega), if_pos q, if_neg (show ¬ cd k = 4 by omega)]
        · rw [if_neg j4] at hok
          have c3 : 3 < nI (cls (cd k)) := by
            rw [zb3 (by omega)]
            unfold cls
            rw [if_neg j0, if_neg j1]
            repeat' split
            all_goals omega
          have t3 : top - 2 + 1 = top - 1 := by omega
          have ep : nI top + (-1) = nI (top - 1) := by
            rw [show top = top - 1 + 1 from by omega, pk_m1]
            rfl
          simp (disch := omega) only [px_bd_s, px_psh_s, px_psh_n, px_vb_s, px_ib_s, px_wb_s, px_bo_s, px_bo_n, Bool.cond_decide, cond_true, cond_false, ite_not, Bool.and_true, if_true, if_false, not_true_eq_false, not_false_eq_true, i10, eq_self, decide_true, decide_false, Bool.or_true, Bool.true_or, Bool.or_false, Bool.false_or, eX4_valueOf_38_118, eX4_valueOf_38_166, e2, px_inbT, nI_clamp, if_pos c3, zd2, if_neg, zm1, zm2, c_ofTwo d _ _ _ _ _ _ _ _ h10 hj01 j4, eX4_valueOf_38_166_25, ep]
          refine fin (top - 1) _ ?_ (by unfold tpp; rw [if_neg hj01, if_neg j4])
          unfold stp
          rw [if_neg j0, if_neg j1, if_neg (show ¬ cd k = 4 by omega), if_neg (show ¬ cd k = 10 by omega)]
theorem c_val_l_43 {p b E : Nat} {F H : Nat → Int32} (h : fdAt D p F H) (hb : b < 6) (hE : E ≤ 160) {cd : Nat → Nat} {vl : Nat → Int32} (y : Int32) : ∀ (g k top : Nat) (o : Option Value) (M : Nat → Nat → Int32), M 44 b = nI E → (∀ i, i < E → M 45 i = nI (cls (cd i)) ∧ M 46 i = vl i) → k + g = E → wfR cd g k top → px_run (px_mk (kX4_valueOf (px_ex px_tab (d + 2)))) 25 ([some (.ref 43), some (.int (nI b)), some (.ref (111 + p)), some (.int y), some (.int (nI top)), o, some (.int (nI k))], [], (hp M J R c e nL xs D)) = some (some (Value.int (evs cd vl (nmv (F 0) (F 3) (F 2) (F 1) y) g k (M 47) top 0)), (hp (px_uR M 47 (evs cd vl (nmv (F 0) (F 3) (F 2) (F 1) y) g k (M 47) top)) (J) (R) (c) (e) nL xs (D)))
  | 0, k, top, o, M, h1, h2, hk, hw => by
    rw [eX4_valueOf_43_25]
    simp (disch := omega) only [px_bd_s, px_psh_s, px_psh_n, px_vb_s, px_ib_s, px_wb_s, px_bo_s, px_bo_n, Bool.cond_decide, cond_true, cond_false, ite_not, Bool.and_true, if_true, if_false, not_true_eq_false, not_false_eq_true, i10, eq_self, decide_true, decide_false, Bool.or_true, Bool.true_or, Bool.or_false, Bool.false_or, px_inbT, nI_clamp, h1, nI_leI, if_pos, eX4_valueOf_43_218, show (0 : Int32) = nI 0 from rfl]
    rw [show evs cd vl (nmv (F 0) (F 3) (F 2) (F 1) y) 0 k (M 47) top = M 47 from rfl, px_uR_id]
  | g + 1, k, top, o, M, h1, h2, hk, hw => by
    obtain ⟨e2, e3⟩ := h2 k (by omega)
    obtain ⟨⟨h10, hok⟩, hw2⟩ := hw
    have fin : ∀ (top' : Nat) (st : Nat → Int32), stp (cd k) (vl k) (nmv (F 0) (F 3) (F 2) (F 1) y) (M 47) top = st → tpp (cd k) top = top' → px_run (px_mk (kX4_valueOf (px_ex px_tab (d + 2)))) 212 ([some (.ref 43), some (.int (nI b)), some (.ref (111 + p)), some (.int y), some (.int (nI top')), none, some (.int (nI k))], [], hp (px_uR M 47 st) J R c e nL xs D) = some (some (Value.int (evs cd vl (nmv (F 0) (F 3) (F 2) (F 1) y) (g + 1) k (M 47) top 0)), (hp (px_uR M 47 (evs cd vl (nmv (F 0) (F 3) (F 2) (F 1) y) (g + 1) k (M 47) top)) (J) (R) (c) (e) nL xs (D))) := by
      rintro top' st rfl rfl
      rw [eX4_valueOf_43_212, nI_1, c_val_l_43 h hb hE y g (k + 1) _ none (px_uR M 47 (stp (cd k) (vl k) (nmv (F 0) (F 3) (F 2) (F 1) y) (M 47) top)) h1 h2 (by omega) hw2, px_uR_2]
      rfl
    have cv : cls (cd k) ≤ 10 := by
      unfold cls
      repeat' split
      all_goals omega
    rw [eX4_valueOf_43_25]
    simp (disch := omega) only [px_bd_s, px_psh_s, px_psh_n, px_vb_s, px_ib_s, px_wb_s, px_bo_s, px_bo_n, Bool.cond_decide, cond_true, cond_false, ite_not, Bool.and_true, if_true, if_false, not_true_eq_false, not_false_eq_true, i10, eq_self, decide_true, decide_false, Bool.or_true, Bool.true_or, Bool.or_false, Bool.false_or, px_inbT, nI_clamp, h1, nI_leI, if_neg, e2, e3]
    by_cases j0 : cd k = 0
    · rw [if_pos (Or.inl j0)] at hok
      rw [j0, show nI (cls 0) = 0 from rfl]
      simp (disch := omega) only [px_bd_s, px_psh_s, px_psh_n, px_vb_s, px_ib_s, px_wb_s, px_bo_s, px_bo_n, Bool.cond_decide, cond_true, cond_false, ite_not, Bool.and_true, if_true, if_false, not_true_eq_false, not_false_eq_true, i10, eq_self, decide_true, decide_false, Bool.or_true, Bool.true_or, Bool.or_false, Bool.false_or, za160, if_neg, px_inbT, nI_clamp, nI_1]
      exact fin (top + 1) _ (by unfold stp; rw [if_pos j0]) (by unfold tpp; rw [if_pos (Or.inl j0)])
    · have c0 : ¬ nI (cls (cd k)) = 0 := by
        rw [ze0 (by omega)]
        unfold cls
        rw [if_neg j0]
        repeat' split
        all_goals omega
      simp only [if_neg c0]
      by_cases j1 : cd k = 1
      · rw [if_pos (Or.inr j1)] at hok
        simp (disch := omega) only [px_bd_s, px_psh_s, px_psh_n, px_vb_s, px_ib_s, px_wb_s, px_bo_s, px_bo_n, Bool.cond_decide, cond_true, cond_false, ite_not, Bool.and_true, if_true, if_false, not_true_eq_false, not_false_eq_true, i10, eq_self, decide_true, decide_false, Bool.or_true, Bool.true_or, Bool.or_false, Bool.false_or, eX4_valueOf_43_74, e2, e3, j1, show nI (cls 1) = 1 from rfl, za160, if_neg, px_inbT, nI_clamp, c_named d _ _ _ _ _ _ _ _ h, eX4_valueOf_43_74_19, nI_1]
        exact fin (top + 1) _ (by unfold stp; rw [if_neg j0, if_pos j1]) (by unfold tpp; rw [if_pos (Or.inr j1)])
      · have c1 : ¬ nI (cls (cd k)) = 1 := by
          rw [ze1 (by omega)]
          unfold cls
          rw [if_neg j0, if_neg j1]
          repeat' split
          all_goals omega
        simp (disch := omega) only [px_bd_s, px_psh_s, px_psh_n, px_vb_s, px_ib_s, px_wb_s, px_bo_s, px_bo_n, Bool.cond_decide, cond_true, cond_false, ite_not, Bool.and_true, if_true, if_false, not_true_eq_false, not_false_eq_true, i10, eq_self, decide_true, decide_false, Bool.or_true, Bool.true_or, Bool.or_false, Bool.false_or, eX4_valueOf_43_74, e2, px_inbT, nI_clamp, if_neg c1]
        have hj01 : ¬ (cd k = 0 ∨ cd k = 1) := by omega
        rw [if_neg hj01] at hok
        by_cases j4 : cd k = 4 ∨ cd k = 10
        · rw [if_pos j4] at hok
          have c3 : ¬ 3 < nI (cls (cd k)) := by
            rw [zb3 (by omega)]
            rcases j4 with q | q <;> rw [q] <;> decide
          simp (disch := omega) only [px_bd_s, px_psh_s, px_psh_n, px_vb_s, px_ib_s, px_wb_s, px_bo_s, px_bo_n, Bool.cond_decide, cond_true, cond_false, ite_not, Bool.and_true, if_true, if_false, not_true_eq_false, not_false_eq_true, i10, eq_self, decide_true, decide_false, Bool.or_true, Bool.true_or, Bool.or_false, Bool.false_or, eX4_valueOf_43_118, e2, px_inbT, nI_clamp, if_neg c3, zd1, if_neg, zm1, c_ofOne d _ _ _ _ _ _ _ _ j4, eX4_valueOf_43_118_25]
          refine fin top _ ?_ (by unfold tpp; rw [if_neg hj01, if_pos j4])
          unfold stp
          rw [if_neg j0, if_neg j1]
          rcases j4 with q | q
          · rw [if_pos q, if_pos q]
          · rw [if_neg (show ¬ cd k = 4 by omega), if_pos q, if_neg (show ¬ cd k = 4 by omega)]
        · rw [if_neg j4] at hok
          have c3 : 3 < nI (cls (cd k)) := by
            rw [zb3 (by omega)]
            unfold cls
            rw [if_neg j0, if_neg j1]
            repeat' split
            all_goals omega
          have t3 : top - 2 + 1 = top - 1 := by omega
          have ep : nI top + (-1) = nI (top - 1) := by
            rw [show top = top - 1 + 1 from by omega, pk_m1]
            rfl
          simp (disch := omega) only [px_bd_s, px_psh_s, px_psh_n, px_vb_s, px_ib_s, px_wb_s, px_bo_s, px_bo_n, Bool.cond_decide, cond_true, cond_false, ite_not, Bool.and_true, if_true, if_false, not_true_eq_false, not_false_eq_true, i10, eq_self, decide_true, decide_false, Bool.or_true, Bool.true_or, Bool.or_false, Bool.false_or, eX4_valueOf_43_118, eX4_valueOf_43_166, e2, px_inbT, nI_clamp, if_pos c3, zd2, if_neg, zm1, zm2, c_ofTwo d _ _ _ _ _ _ _ _ h10 hj01 j4, eX4_valueOf_43_166_25, ep]
          refine fin (top - 1) _ ?_ (by unfold tpp; rw [if_neg hj01, if_neg j4])
          unfold stp
          rw [if_neg j0, if_neg j1, if_neg (show ¬ cd k = 4 by omega), if_neg (show ¬ cd k = 10 by omega)]
end S41b
