/-! PART 33: BOND, BEST, JOINED -/
theorem bnd_c {ha hb ha' hb' : Nat → Int32} {na nb : Nat} (h1 : ∀ i, i < na → ha i = ha' i) (h2 : ∀ j, j < nb → hb j = hb' j) : bnd ha hb na nb = bnd ha' hb' na nb := by
  have e : ∀ s, sh2 ha hb nb s na 0 0 = sh2 ha' hb' nb s na 0 0 := fun s => sh2_c s h2 na 0 0 (fun k _ hk => h1 k (by omega))
  unfold bnd
  simp only [e]
/-- the bond of two timbers by the model's rows -/
def bdp (hc hl : Nat → Int32) (a b : Nat) : Int32 × Int32 := bnd (fun i => hl (8 * a + i)) (fun j => hl (8 * b + j)) (hc a).toNatClampNeg (hc b).toNatClampNeg
def tmb (n : Nat) (kd : Nat → Int32) (v : Int32) (i : Nat) : Prop := i < n ∧ v = nI i ∧ kd i = 1
def bst (kd : Nat → Int32) (bd : Nat → Int32) (a : Nat) : Nat → Nat → Int32 → Int32 → Int32
  | 0, _, x, _ => x
  | g + 1, k, x, y => if k = a ∨ ¬ kd k = 1 then bst kd bd a g (k + 1) x y else if bd k ≤ y then bst kd bd a g (k + 1) x y else bst kd bd a g (k + 1) (nI k) (bd k)
theorem bst_s (kd : Nat → Int32) (bd : Nat → Int32) (a g k : Nat) (x y : Int32) : bst kd bd a (g + 1) k x y = if k = a ∨ ¬ kd k = 1 then bst kd bd a g (k + 1) x y else if bd k ≤ y then bst kd bd a g (k + 1) x y else bst kd bd a g (k + 1) (nI k) (bd k) := rfl
theorem bst_or (kd : Nat → Int32) (bd : Nat → Int32) (a : Nat) : ∀ (g k : Nat) (x y : Int32), bst kd bd a g k x y = x ∨ ∃ j, k ≤ j ∧ j < k + g ∧ kd j = 1 ∧ bst kd bd a g k x y = nI j
  | 0, _, _, _ => Or.inl rfl
  | g + 1, k, x, y => by
    rw [bst_s]
    have ih := bst_or kd bd a g (k + 1)
    have up : ∀ x' y', (bst kd bd a g (k + 1) x' y' = x' ∨ ∃ j, k + 1 ≤ j ∧ j < k + 1 + g ∧ kd j = 1 ∧ bst kd bd a g (k + 1) x' y' = nI j) → (bst kd bd a g (k + 1) x' y' = x' ∨ ∃ j, k ≤ j ∧ j < k + (g + 1) ∧ kd j = 1 ∧ bst kd bd a g (k + 1) x' y' = nI j) := by
      rintro x' y' (h | ⟨j, h1, h2, h3, h4⟩)
      · exact Or.inl h
      · exact Or.inr ⟨j, by omega, by omega, h3, h4⟩
    by_cases h1 : k = a ∨ ¬ kd k = 1
    · rw [if_pos h1]
      exact up _ _ (ih x y)
    · rw [if_neg h1]
      by_cases h2 : bd k ≤ y
      · rw [if_pos h2]
        exact up _ _ (ih x y)
      · rw [if_neg h2]
        rcases up _ _ (ih (nI k) (bd k)) with h | h
        · exact Or.inr ⟨k, Nat.le_refl _, by omega, Decidable.not_not.mp fun q => h1 (Or.inr q), h⟩
        · exact Or.inr h
section S33
variable (d : Nat) (M : Nat → Nat → Int32) (J : Nat → Nat → Int64) (R : Nat → Nat → Option Nat) (c e nL : Nat) (xs : Nat → Int32) (D : px_H)
theorem c_tm_y {n : Nat} {P : Nat → Nat} {H : Nat → Nat → Int32} (hF : IFn n P H (M 28 0) (M 67 13) (R 29) D (M 77) (M 78) (M 79) (M 80) (M 81) (M 82) (M 83) (M 84)) {v : Int32} {i : Nat} (h : tmb n (M 77) v i) : px_ex px_tab (d + 2) 112 [Value.ref (28), Value.int (v)] (hp (M) (J) (R) (c) (e) nL xs (D)) = some (some (Value.ref (111 + P i)), (hp (M) (J) (R) (c) (e) nL xs (D))) := by
  obtain ⟨h1, rfl, h3⟩ := h
  obtain ⟨a1, a2, a3, a4⟩ := hF.2.2.2.2.1 i h1
  exact (c_timberAt _ _ _ _ _ _ _ _ _ hF.1 hF.2.1 i h1 a1 a2).trans (if_pos h3)
theorem c_tm_n {n : Nat} {P : Nat → Nat} {H : Nat → Nat → Int32} (hF : IFn n P H (M 28 0) (M 67 13) (R 29) D (M 77) (M 78) (M 79) (M 80) (M 81) (M 82) (M 83) (M 84)) {v : Int32} (h : ¬ ∃ i, tmb n (M 77) v i) : px_ex px_tab (d + 2) 112 [Value.ref (28), Value.int (v)] (hp (M) (J) (R) (c) (e) nL xs (D)) = some (some (Value.null), (hp (M) (J) (R) (c) (e) nL xs (D))) := by
  have hn := hF.1
  rcases pk_ix v (n := n) (by omega) with h1 | h1 | ⟨i, hi, rfl⟩
  · exact c_timberAt_n _ _ _ _ _ _ _ _ _ hF.2.1 v (Or.inl h1)
  · exact c_timberAt_n _ _ _ _ _ _ _ _ _ hF.2.1 v (Or.inr h1)
  · obtain ⟨a1, a2, a3, a4⟩ := hF.2.2.2.2.1 i hi
    exact (c_timberAt _ _ _ _ _ _ _ _ _ hF.1 hF.2.1 i hi a1 a2).trans (if_neg fun q => h ⟨i, hi, rfl, q⟩)
theorem m_tm_y {n : Nat} (hn : n ≤ 20) (h67 : M 67 13 = nI n) {v : Int32} {i : Nat} (h : tmb n (M 77) v i) : px_ex px_tab (d + 3) 183 [Value.ref (67), Value.int (v)] (hp (M) (J) (R) (c) (e) nL xs (D)) = some (some (Value.int (1)), (hp (M) (J) (R) (c) (e) nL xs (D))) := by
  obtain ⟨h1, rfl, h3⟩ := h
  rw [m_isTimber _ _ _ _ _ _ _ _ _ hn h67 i h1, if_pos h3]
theorem m_tm_n {n : Nat} (hn : n ≤ 20) (h67 : M 67 13 = nI n) {v : Int32} (h : ¬ ∃ i, tmb n (M 77) v i) : px_ex px_tab (d + 3) 183 [Value.ref (67), Value.int (v)] (hp (M) (J) (R) (c) (e) nL xs (D)) = some (some (Value.int (0)), (hp (M) (J) (R) (c) (e) nL xs (D))) := by
  rcases pk_ix v (n := n) (by omega) with h1 | h1 | ⟨i, hi, rfl⟩
  · exact m_isTimber_n _ _ _ _ _ _ _ _ _ hn h67 v (Or.inl h1)
  · exact m_isTimber_n _ _ _ _ _ _ _ _ _ hn h67 v (Or.inr h1)
  · rw [m_isTimber _ _ _ _ _ _ _ _ _ hn h67 i hi, if_neg fun q => h ⟨i, hi, rfl, q⟩]
/-- matching two finds -/
theorem c_match2 {n : Nat} {P : Nat → Nat} {H : Nat → Nat → Int32} (hF : IFn n P H (M 28 0) (M 67 13) (R 29) D (M 77) (M 78) (M 79) (M 80) (M 81) (M 82) (M 83) (M 84)) {i j : Nat} (hi : i < n) (hj : j < n) : ∃ M', px_ex px_tab (d + 2) 99 [Value.ref (49), Value.ref (111 + P i), Value.ref (111 + P j)] (hp (M) (J) (R) (c) (e) nL xs (D)) = some (none, (hp (M') (J) (R) (c) (e) nL xs (D))) ∧ M' 49 1 = (bdp (M 81) (M 82) i j).1 ∧ M' 49 2 = (bdp (M 81) (M 82) i j).2 ∧ (∀ a, a ≠ 49 → a ≠ 50 → M' a = M a) := by
  obtain ⟨a1, a2, a3, a4⟩ := hF.2.2.2.2.1 i hi
  obtain ⟨b1, b2, b3, b4⟩ := hF.2.2.2.2.1 j hj
  obtain ⟨na, hna, ea⟩ := a3.2.2.2.2.1
  obtain ⟨nb, hnb, eb⟩ := b3.2.2.2.2.1
  have eB : bnd (H i) (H j) na nb = bdp (M 81) (M 82) i j := by
    unfold bdp
    rw [ea, eb, nI_clamp (by omega), nI_clamp (by omega)]
    exact bnd_c (fun k hk => (a4 k (by omega) (by rw [ea]; exact nI_lt hk (by omega))).symm) (fun k hk => (b4 k (by omega) (by rw [eb]; exact nI_lt hk (by omega))).symm)
  refine ⟨_, c_match d J R c e nL xs D a2 b2 hna hnb ea eb M, ?_, ?_, ?_⟩
  · rw [eB]; rfl
  · rw [eB]; rfl
  · intro a h1 h2
    unfold stB
    rw [px_uR_n _ _ _ _ h1, px_uR_n _ _ _ _ h2]
theorem m_bonded2 {n : Nat} {P : Nat → Nat} {H : Nat → Nat → Int32} (hF : IFn n P H (M 28 0) (M 67 13) (R 29) D (M 77) (M 78) (M 79) (M 80) (M 81) (M 82) (M 83) (M 84)) {i j : Nat} (hi : i < n) (hj : j < n) (w : Int32) : px_ex px_tab (d + 2) 233 [Value.ref (67), Value.int (nI i), Value.int (nI j), Value.int (w)] (hp (M) (J) (R) (c) (e) nL xs (D)) = some (some (Value.int (if w = 0 then (bdp (M 81) (M 82) i j).1 else (bdp (M 81) (M 82) i j).2)), (hp (M) (J) (R) (c) (e) nL xs (D))) := by
  have hn := hF.1
  obtain ⟨a1, a2, a3, a4⟩ := hF.2.2.2.2.1 i hi
  obtain ⟨b1, b2, b3, b4⟩ := hF.2.2.2.2.1 j hj
  obtain ⟨na, hna, ea⟩ := a3.2.2.2.2.1
  obtain ⟨nb, hnb, eb⟩ := b3.2.2.2.2.1
  rw [m_bonded _ _ _ _ _ _ _ _ _ (by omega) (by omega) hna hnb ea eb]
  unfold bdp
  rw [ea, eb, nI_clamp (by omega), nI_clamp (by omega)]
theorem t_bond (hI : IFd M R D) (v u w : Int32) : ∃ r M1 M2, px_ex px_tab (d + 4) 148 [Value.ref (13), Value.int (v), Value.int (u), Value.int (w)] (hp (M) (J) (R) (c) (e) nL xs (D)) = some (some (Value.int (r)), (hp (M1) (J) (R) (c) (e) nL xs (D))) ∧ px_ex px_tab (d + 4) 234 [Value.ref (67), Value.int (v), Value.int (u), Value.int (w)] (hp (M1) (J) (R) (c) (e) nL xs (D)) = some (some (Value.int (r)), (hp (M2) (J) (R) (c) (e) nL xs (D))) ∧ frm [49, 50] [] M M2 := by
  obtain ⟨n, P, H, hF⟩ := hI
  have hn := hF.1
  by_cases h1 : ∃ i, tmb n (M 77) v i
  · obtain ⟨i, hi⟩ := h1
    have c1 := c_tm_y (d + 1) M J R c e nL xs D hF hi
    have m1 := m_tm_y d M J R c e nL xs D hn hF.2.2.1 hi
    by_cases h2 : ∃ j, tmb n (M 77) u j
    · obtain ⟨j, hj⟩ := h2
      have c2 := c_tm_y (d + 1) M J R c e nL xs D hF hj
      have m2 := m_tm_y d M J R c e nL xs D hn hF.2.2.1 hj
      by_cases h3 : v = u
      · refine ⟨-1000, M, M, ?_, ?_, frm.rf _ _ _⟩
        · rw [xX11_bond]
          simp only [px_bd_s, px_psh_s, px_psh_n, px_vb_s, px_ib_s, px_wb_s, px_bo_s, px_bo_n, Bool.cond_decide, cond_true, cond_false, ite_not, Bool.and_true, if_true, if_false, not_true_eq_false, not_false_eq_true, i10, eq_self, decide_true, decide_false, Bool.or_true, Bool.true_or, Bool.or_false, Bool.false_or, eX11_bond_0, eX11_bond_0_4, eX11_bond_0_4_b, eX11_bond_0_9, eX11_bond_0_9_b, eX11_bond_0_9_c, eX11_bond_0_9_d, eX11_bond_44, eX11_bond_48, eX11_bond_48_5, eX11_bond_73, eX11_bond_80, c1, c2, if_pos h3]
        · rw [xX12_bond]
          simp only [px_bd_s, px_psh_s, px_psh_n, px_vb_s, px_ib_s, px_wb_s, px_bo_s, px_bo_n, Bool.cond_decide, cond_true, cond_false, ite_not, Bool.and_true, if_true, if_false, not_true_eq_false, not_false_eq_true, i10, eq_self, decide_true, decide_false, Bool.or_true, Bool.true_or, Bool.or_false, Bool.false_or, eX12_bond_0, eX12_bond_0_3, eX12_bond_40, eX12_bond_0_7, eX12_bond_43, eX12_bond_0_15, eX12_bond_0_21, m1, m2, if_pos h3]
      · by_cases h4 : 0 ≤ w ∧ w ≤ 1
        · obtain ⟨M', hM, e1, e2, hfr⟩ := c_match2 (d + 1) M J R c e nL xs D hF hi.1 hj.1
          refine ⟨if w = 0 then (bdp (M 81) (M 82) i j).1 else (bdp (M 81) (M 82) i j).2, M', M', ?_, ?_, ?_⟩
          · rw [xX11_bond]
            simp only [px_bd_s, px_psh_s, px_psh_n, px_vb_s, px_ib_s, px_wb_s, px_bo_s, px_bo_n, Bool.cond_decide, cond_true, cond_false, ite_not, Bool.and_true, if_true, if_false, not_true_eq_false, not_false_eq_true, i10, eq_self, decide_true, decide_false, Bool.or_true, Bool.true_or, Bool.or_false, Bool.false_or, eX11_bond_0, eX11_bond_0_4, eX11_bond_0_4_b, eX11_bond_0_9, eX11_bond_0_9_b, eX11_bond_0_9_c, eX11_bond_0_9_d, eX11_bond_44, eX11_bond_48, eX11_bond_48_5, eX11_bond_73, eX11_bond_80, c1, c2, if_neg h3, Int32.not_lt.mpr h4.1, h4.2, hM, e1, e2]
            split <;> rfl
          · have hF' : IFn n P H (M' 28 0) (M' 67 13) (R 29) D (M' 77) (M' 78) (M' 79) (M' 80) (M' 81) (M' 82) (M' 83) (M' 84) := by
              rw [hfr 28 (by decide) (by decide), hfr 67 (by decide) (by decide), hfr 77 (by decide) (by decide), hfr 78 (by decide) (by decide), hfr 79 (by decide) (by decide), hfr 80 (by decide) (by decide), hfr 81 (by decide) (by decide), hfr 82 (by decide) (by decide), hfr 83 (by decide) (by decide), hfr 84 (by decide) (by decide)]
              exact hF
            have hi' : tmb n (M' 77) v i := by rw [hfr 77 (by decide) (by decide)]; exact hi
            have hj' : tmb n (M' 77) u j := by rw [hfr 77 (by decide) (by decide)]; exact hj
            have m1 := m_tm_y d M' J R c e nL xs D hn hF'.2.2.1 hi'
            have m2 := m_tm_y d M' J R c e nL xs D hn hF'.2.2.1 hj'
            have mb := m_bonded2 (d + 1) M' J R c e nL xs D hF' hi.1 hj.1 w
            rw [← hi.2.1, ← hj.2.1, hfr 81 (by decide) (by decide), hfr 82 (by decide) (by decide)] at mb
            rw [xX12_bond]
            simp only [px_bd_s, px_psh_s, px_psh_n, px_vb_s, px_ib_s, px_wb_s, px_bo_s, px_bo_n, Bool.cond_decide, cond_true, cond_false, ite_not, Bool.and_true, if_true, if_false, not_true_eq_false, not_false_eq_true, i10, eq_self, decide_true, decide_false, Bool.or_true, Bool.true_or, Bool.or_false, Bool.false_or, eX12_bond_0, eX12_bond_0_3, eX12_bond_40, eX12_bond_0_7, eX12_bond_43, eX12_bond_0_15, eX12_bond_0_21, m1, m2, if_neg h3, c_in, px_in_1 h4, mb]
          · exact ⟨fun a _ h => hfr a (fun q => h (by rw [q]; decide)) (fun q => h (by rw [q]; decide)), fun k _ => by rw [hfr 67 (by decide) (by decide)]⟩
        · refine ⟨-1000, M, M, ?_, ?_, frm.rf _ _ _⟩
          · rw [xX11_bond]
            simp only [px_bd_s, px_psh_s, px_psh_n, px_vb_s, px_ib_s, px_wb_s, px_bo_s, px_bo_n, Bool.cond_decide, cond_true, cond_false, ite_not, Bool.and_true, if_true, if_false, not_true_eq_false, not_false_eq_true, i10, eq_self, decide_true, decide_false, Bool.or_true, Bool.true_or, Bool.or_false, Bool.false_or, eX11_bond_0, eX11_bond_0_4, eX11_bond_0_4_b, eX11_bond_0_9, eX11_bond_0_9_b, eX11_bond_0_9_c, eX11_bond_0_9_d, eX11_bond_44, eX11_bond_48, eX11_bond_48_5, eX11_bond_73, eX11_bond_80, c1, c2, if_neg h3]
            by_cases h5 : w < 0
            · simp only [if_pos h5]
            · have h6 : ¬ w ≤ 1 := fun q => h4 ⟨Int32.not_lt.mp h5, q⟩
              simp only [if_neg h5, if_neg h6]
          · rw [xX12_bond]
            simp only [px_bd_s, px_psh_s, px_psh_n, px_vb_s, px_ib_s, px_wb_s, px_bo_s, px_bo_n, Bool.cond_decide, cond_true, cond_false, ite_not, Bool.and_true, if_true, if_false, not_true_eq_false, not_false_eq_true, i10, eq_self, decide_true, decide_false, Bool.or_true, Bool.true_or, Bool.or_false, Bool.false_or, eX12_bond_0, eX12_bond_0_3, eX12_bond_40, eX12_bond_0_7, eX12_bond_43, eX12_bond_0_15, eX12_bond_0_21, m1, m2, if_neg h3, c_in, px_in_00 h4]
    · have c2 := c_tm_n (d + 1) M J R c e nL xs D hF h2
      have m2 := m_tm_n d M J R c e nL xs D hn hF.2.2.1 h2
      refine ⟨-1000, M, M, ?_, ?_, frm.rf _ _ _⟩
      · rw [xX11_bond]
        simp only [px_bd_s, px_psh_s, px_psh_n, px_vb_s, px_ib_s, px_wb_s, px_bo_s, px_bo_n, Bool.cond_decide, cond_true, cond_false, ite_not, Bool.and_true, if_true, if_false, not_true_eq_false, not_false_eq_true, i10, eq_self, decide_true, decide_false, Bool.or_true, Bool.true_or, Bool.or_false, Bool.false_or, eX11_bond_0, eX11_bond_0_4, eX11_bond_0_4_b, eX11_bond_0_9, eX11_bond_0_9_b, eX11_bond_0_9_c, eX11_bond_0_9_d, eX11_bond_44, eX11_bond_48, eX11_bond_48_5, eX11_bond_73, eX11_bond_80, c1, c2]
      · rw [xX12_bond]
        simp only [px_bd_s, px_psh_s, px_psh_n, px_vb_s, px_ib_s, px_wb_s, px_bo_s, px_bo_n, Bool.cond_decide, cond_true, cond_false, ite_not, Bool.and_true, if_true, if_false, not_true_eq_false, not_false_eq_true, i10, eq_self, decide_true, decide_false, Bool.or_true, Bool.true_or, Bool.or_false, Bool.false_or, eX12_bond_0, eX12_bond_0_3, eX12_bond_40, eX12_bond_0_7, eX12_bond_43, eX12_bond_0_15, eX12_bond_0_21, m1, m2]
  · have c1 := c_tm_n (d + 1) M J R c e nL xs D hF h1
    have m1 := m_tm_n d M J R c e nL xs D hn hF.2.2.1 h1
    refine ⟨-1000, M, M, ?_, ?_, frm.rf _ _ _⟩
    · rw [xX11_bond]
      by_cases h2 : ∃ j, tmb n (M 77) u j
      · obtain ⟨j, hj⟩ := h2
        simp only [px_bd_s, px_psh_s, px_psh_n, px_vb_s, px_ib_s, px_wb_s, px_bo_s, px_bo_n, Bool.cond_decide, cond_true, cond_false, ite_not, Bool.and_true, if_true, if_false, not_true_eq_false, not_false_eq_true, i10, eq_self, decide_true, decide_false, Bool.or_true, Bool.true_or, Bool.or_false, Bool.false_or, eX11_bond_0, eX11_bond_0_4, eX11_bond_0_4_b, eX11_bond_0_9, eX11_bond_0_9_b, eX11_bond_0_9_c, eX11_bond_0_9_d, eX11_bond_44, eX11_bond_48, eX11_bond_48_5, eX11_bond_73, eX11_bond_80, c1, c_tm_y (d + 1) M J R c e nL xs D hF hj]
      · simp only [px_bd_s, px_psh_s, px_psh_n, px_vb_s, px_ib_s, px_wb_s, px_bo_s, px_bo_n, Bool.cond_decide, cond_true, cond_false, ite_not, Bool.and_true, if_true, if_false, not_true_eq_false, not_false_eq_true, i10, eq_self, decide_true, decide_false, Bool.or_true, Bool.true_or, Bool.or_false, Bool.false_or, eX11_bond_0, eX11_bond_0_4, eX11_bond_0_4_b, eX11_bond_0_9, eX11_bond_0_9_b, eX11_bond_0_9_c, eX11_bond_0_9_d, eX11_bond_44, eX11_bond_48, eX11_bond_48_5, eX11_bond_73, eX11_bond_80, c1, c_tm_n (d + 1) M J R c e nL xs D hF h2]
    · rw [xX12_bond]
      simp only [px_bd_s, px_psh_s, px_psh_n, px_vb_s, px_ib_s, px_wb_s, px_bo_s, px_bo_n, Bool.cond_decide, cond_true, cond_false, ite_not, Bool.and_true, if_true, if_false, not_true_eq_false, not_false_eq_true, i10, eq_self, decide_true, decide_false, Bool.or_true, Bool.true_or, Bool.or_false, Bool.false_or, eX12_bond_0, eX12_bond_0_3, eX12_bond_40, eX12_bond_0_7, eX12_bond_43, eX12_bond_0_15, eX12_bond_0_21, m1]
end S33
section S33b
variable (d : Nat) (J : Nat → Nat → Int64) (R : Nat → Nat → Option Nat) (c e nL : Nat) (xs : Nat → Int32) (D : px_H)
theorem c_best_l {n : Nat} {P : Nat → Nat} {H : Nat → Nat → Int32} {a : Nat} (ha : a < n) : ∀ (g k : Nat) (x y : Int32) (M : Nat → Nat → Int32), IFn n P H (M 28 0) (M 67 13) (R 29) D (M 77) (M 78) (M 79) (M 80) (M 81) (M 82) (M 83) (M 84) → k + g = n → ∃ M', px_run (px_mk (kX8_bestOf (px_ex px_tab (d + 2)))) 22 ([some (.ref 49), some (.ref 28), some (.int (nI a)), some (.ref (111 + P a)), some (.int x), some (.int y), some (.int (nI k)), none], [], (hp M J R c e nL xs D)) = some (some (Value.int (bst (M 77) (fun j => (bdp (M 81) (M 82) a j).1) a g k x y)), (hp (M') (J) (R) (c) (e) nL xs (D))) ∧ (∀ a, a ≠ 49 → a ≠ 50 → M' a = M a)
  | 0, k, x, y, M, hF, hk => by
    have hn := hF.1
    refine ⟨M, ?_, fun _ _ _ => rfl⟩
    rw [eX8_bestOf_22]
    simp (disch := omega) only [px_bd_s, px_psh_s, px_psh_n, px_vb_s, px_ib_s, px_wb_s, px_bo_s, px_bo_n, Bool.cond_decide, cond_true, cond_false, ite_not, Bool.and_true, if_true, if_false, not_true_eq_false, not_false_eq_true, i10, eq_self, decide_true, decide_false, Bool.or_true, Bool.true_or, Bool.or_false, Bool.false_or, za0, zb0, zc0, zd0, ze0, zf0, za1, zb1, zc1, zd1, ze1, zf1, za2, zb2, zc2, zd2, ze2, zf2, za3, zb3, zc3, zd3, ze3, zf3, za4, zb4, zc4, zd4, ze4, zf4, za5, zb5, zc5, zd5, ze5, zf5, za6, zb6, zc6, zd6, ze6, zf6, za7, zb7, zc7, zd7, ze7, zf7, za8, zb8, zc8, zd8, ze8, zf8, za9, zb9, zc9, zd9, ze9, zf9, za10, zb10, zc10, zd10, ze10, zf10, za20, zb20, zc20, zd20, ze20, zf20, za24, zb24, zc24, zd24, ze24, zf24, za39, zb39, zc39, zd39, ze39, zf39, za40, zb40, zc40, zd40, ze40, zf40, za50, zb50, zc50, zd50, ze50, zf50, za51, zb51, zc51, zd51, ze51, zf51, za60, zb60, zc60, zd60, ze60, zf60, za90, zb90, zc90, zd90, ze90, zf90, za99, zb99, zc99, zd99, ze99, zf99, za100, zb100, zc100, zd100, ze100, zf100, za101, zb101, zc101, zd101, ze101, zf101, za120, zb120, zc120, zd120, ze120, zf120, za160, zb160, zc160, zd160, ze160, zf160, za200, zb200, zc200, zd200, ze200, zf200, za400, zb400, zc400, zd400, ze400, zf400, za999, zb999, zc999, zd999, ze999, zf999, za1000, zb1000, zc1000, zd1000, ze1000, zf1000, za1440, zb1440, zc1440, zd1440, ze1440, zf1440, zp1, zp2, zp3, zp8, zp40, zq8, zq10, zq40, nI_leI, nI_ltI, nI_eq, px_inbT, nI_clamp, nI_add, pk_m1, if_pos, if_neg, hF.2.1, eX8_bestOf_82]
    rfl
  | g + 1, k, x, y, M, hF, hk => by
    have hn := hF.1
    rw [bst_s, eX8_bestOf_22]
    simp (disch := omega) only [px_bd_s, px_psh_s, px_psh_n, px_vb_s, px_ib_s, px_wb_s, px_bo_s, px_bo_n, Bool.cond_decide, cond_true, cond_false, ite_not, Bool.and_true, if_true, if_false, not_true_eq_false, not_false_eq_true, i10, eq_self, decide_true, decide_false, Bool.or_true, Bool.true_or, Bool.or_false, Bool.false_or, hF.2.1, nI_leI, if_neg]
    by_cases hm : M 77 k = 1
    · have c1 := c_tm_y d M J R c e nL xs D hF (v := nI k) (i := k) ⟨by omega, rfl, hm⟩
      simp only [px_bd_s, px_psh_s, px_psh_n, px_vb_s, px_ib_s, px_wb_s, px_bo_s, px_bo_n, Bool.cond_decide, cond_true, cond_false, ite_not, Bool.and_true, if_true, if_false, not_true_eq_false, not_false_eq_true, i10, eq_self, decide_true, decide_false, Bool.or_true, Bool.true_or, Bool.or_false, Bool.false_or, c1, eX8_bestOf_22_7]
      by_cases hka : k = a
      · subst hka
        obtain ⟨M', h1, h2⟩ := c_best_l ha g (k + 1) x y M hF (by omega)
        refine ⟨M', ?_, h2⟩
        simp only [px_bd_s, px_psh_s, px_psh_n, px_vb_s, px_ib_s, px_wb_s, px_bo_s, px_bo_n, Bool.cond_decide, cond_true, cond_false, ite_not, Bool.and_true, if_true, if_false, not_true_eq_false, not_false_eq_true, i10, eq_self, decide_true, decide_false, Bool.or_true, Bool.true_or, Bool.or_false, Bool.false_or, eX8_bestOf_76, nI_1, true_or, h1]
      · obtain ⟨M1, hM, e1, e2, hfr⟩ := c_match2 d M J R c e nL xs D hF ha (show k < n by omega)
        have hF' : IFn n P H (M1 28 0) (M1 67 13) (R 29) D (M1 77) (M1 78) (M1 79) (M1 80) (M1 81) (M1 82) (M1 83) (M1 84) := by
          rw [hfr 28 (by decide) (by decide), hfr 67 (by decide) (by decide), hfr 77 (by decide) (by decide), hfr 78 (by decide) (by decide), hfr 79 (by decide) (by decide), hfr 80 (by decide) (by decide), hfr 81 (by decide) (by decide), hfr 82 (by decide) (by decide), hfr 83 (by decide) (by decide), hfr 84 (by decide) (by decide)]
          exact hF
        have hne : ¬ (k = a ∨ ¬ M 77 k = 1) := by
          rintro (q | q)
          · exact hka q
          · exact q hm
        rw [if_neg hne]
        simp (disch := omega) only [px_bd_s, px_psh_s, px_psh_n, px_vb_s, px_ib_s, px_wb_s, px_bo_s, px_bo_n, Bool.cond_decide, cond_true, cond_false, ite_not, Bool.and_true, if_true, if_false, not_true_eq_false, not_false_eq_true, i10, eq_self, decide_true, decide_false, Bool.or_true, Bool.true_or, Bool.or_false, Bool.false_or, nI_eq, hka, hM, eX8_bestOf_22_17, e1]
        by_cases hb : (bdp (M 81) (M 82) a k).1 ≤ y
        · obtain ⟨M', h1, h2⟩ := c_best_l ha g (k + 1) x y M1 hF' (by omega)
          rw [hfr 77 (by decide) (by decide), hfr 81 (by decide) (by decide), hfr 82 (by decide) (by decide)] at h1
          refine ⟨M', ?_, fun z z1 z2 => (h2 z z1 z2).trans (hfr z z1 z2)⟩
          simp only [if_pos hb, eX8_bestOf_76, nI_1, h1]
        · obtain ⟨M', h1, h2⟩ := c_best_l ha g (k + 1) (nI k) (bdp (M 81) (M 82) a k).1 M1 hF' (by omega)
          rw [hfr 77 (by decide) (by decide), hfr 81 (by decide) (by decide), hfr 82 (by decide) (by decide)] at h1
          refine ⟨M', ?_, fun z z1 z2 => (h2 z z1 z2).trans (hfr z z1 z2)⟩
          simp only [if_neg hb, eX8_bestOf_76, nI_1, h1]
    · have c1 := c_tm_n d M J R c e nL xs D hF (v := nI k) (by
        rintro ⟨i, h1, h2, h3⟩
        rw [nI_eq (by omega) (by omega)] at h2
        subst h2
        exact hm h3)
      obtain ⟨M', h1, h2⟩ := c_best_l ha g (k + 1) x y M hF (by omega)
      refine ⟨M', ?_, h2⟩
      simp only [px_bd_s, px_psh_s, px_psh_n, px_vb_s, px_ib_s, px_wb_s, px_bo_s, px_bo_n, Bool.cond_decide, cond_true, cond_false, ite_not, Bool.and_true, if_true, if_false, not_true_eq_false, not_false_eq_true, i10, eq_self, decide_true, decide_false, Bool.or_true, Bool.true_or, Bool.or_false, Bool.false_or, c1, eX8_bestOf_22_7_b, eX8_bestOf_76, nI_1, hm, or_true, h1]
end S33b
section S33c
variable (d : Nat) (M : Nat → Nat → Int32) (J : Nat → Nat → Int64) (R : Nat → Nat → Option Nat) (c e nL : Nat) (xs : Nat → Int32) (D : px_H)
theorem c_bestOf {n : Nat} {P : Nat → Nat} {H : Nat → Nat → Int32} (hF : IFn n P H (M 28 0) (M 67 13) (R 29) D (M 77) (M 78) (M 79) (M 80) (M 81) (M 82) (M 83) (M 84)) {v : Int32} {a : Nat} (ha : tmb n (M 77) v a) : ∃ M', px_ex px_tab (d + 3) 101 [Value.ref (49), Value.ref (28), Value.int (v)] (hp (M) (J) (R) (c) (e) nL xs (D)) = some (some (Value.int (bst (M 77) (fun j => (bdp (M 81) (M 82) a j).1) a n 0 (-1) 1)), (hp (M') (J) (R) (c) (e) nL xs (D))) ∧ (∀ a, a ≠ 49 → a ≠ 50 → M' a = M a) := by
  obtain ⟨M', h1, h2⟩ := c_best_l d J R c e nL xs D ha.1 n 0 (-1) 1 M hF (by omega)
  refine ⟨M', ?_, h2⟩
  rw [xX8_bestOf]
  rw [nI_0, ← ha.2.1] at h1
  simp only [px_bd_s, px_psh_s, px_psh_n, px_vb_s, px_ib_s, px_wb_s, px_bo_s, px_bo_n, Bool.cond_decide, cond_true, cond_false, ite_not, Bool.and_true, if_true, if_false, not_true_eq_false, not_false_eq_true, i10, eq_self, decide_true, decide_false, Bool.or_true, Bool.true_or, Bool.or_false, Bool.false_or, eX8_bestOf_0, eX8_bestOf_0_3, eX8_bestOf_13, c_tm_y _ _ _ _ _ _ _ _ _ hF ha, h1]
theorem m_best_l {n : Nat} {P : Nat → Nat} {H : Nat → Nat → Int32} (hF : IFn n P H (M 28 0) (M 67 13) (R 29) D (M 77) (M 78) (M 79) (M 80) (M 81) (M 82) (M 83) (M 84)) {a : Nat} (ha : a < n) : ∀ (g k : Nat) (x y : Int32), k + g = n → px_run (px_mk (kX12_bestOf (px_ex px_tab (d + 2)))) 7 ([some (.ref 67), some (.int (nI a)), some (.int x), some (.int y), some (.int (nI k))], [], (hp M J R c e nL xs D)) = some (some (Value.int (bst (M 77) (fun j => (bdp (M 81) (M 82) a j).1) a g k x y)), (hp (M) (J) (R) (c) (e) nL xs (D)))
  | 0, k, x, y, hk => by
    have hn := hF.1
    rw [eX12_bestOf_7]
    simp (disch := omega) only [px_bd_s, px_psh_s, px_psh_n, px_vb_s, px_ib_s, px_wb_s, px_bo_s, px_bo_n, Bool.cond_decide, cond_true, cond_false, ite_not, Bool.and_true, if_true, if_false, not_true_eq_false, not_false_eq_true, i10, eq_self, decide_true, decide_false, Bool.or_true, Bool.true_or, Bool.or_false, Bool.false_or, za0, zb0, zc0, zd0, ze0, zf0, za1, zb1, zc1, zd1, ze1, zf1, za2, zb2, zc2, zd2, ze2, zf2, za3, zb3, zc3, zd3, ze3, zf3, za4, zb4, zc4, zd4, ze4, zf4, za5, zb5, zc5, zd5, ze5, zf5, za6, zb6, zc6, zd6, ze6, zf6, za7, zb7, zc7, zd7, ze7, zf7, za8, zb8, zc8, zd8, ze8, zf8, za9, zb9, zc9, zd9, ze9, zf9, za10, zb10, zc10, zd10, ze10, zf10, za20, zb20, zc20, zd20, ze20, zf20, za24, zb24, zc24, zd24, ze24, zf24, za39, zb39, zc39, zd39, ze39, zf39, za40, zb40, zc40, zd40, ze40, zf40, za50, zb50, zc50, zd50, ze50, zf50, za51, zb51, zc51, zd51, ze51, zf51, za60, zb60, zc60, zd60, ze60, zf60, za90, zb90, zc90, zd90, ze90, zf90, za99, zb99, zc99, zd99, ze99, zf99, za100, zb100, zc100, zd100, ze100, zf100, za101, zb101, zc101, zd101, ze101, zf101, za120, zb120, zc120, zd120, ze120, zf120, za160, zb160, zc160, zd160, ze160, zf160, za200, zb200, zc200, zd200, ze200, zf200, za400, zb400, zc400, zd400, ze400, zf400, za999, zb999, zc999, zd999, ze999, zf999, za1000, zb1000, zc1000, zd1000, ze1000, zf1000, za1440, zb1440, zc1440, zd1440, ze1440, zf1440, zp1, zp2, zp3, zp8, zp40, zq8, zq10, zq40, nI_leI, nI_ltI, nI_eq, px_inbT, nI_clamp, nI_add, pk_m1, if_pos, if_neg, hF.2.2.1, eX12_bestOf_63]
    rfl
  | g + 1, k, x, y, hk => by
    have hn := hF.1
    rw [eX12_bestOf_7, bst_s]
    simp (disch := omega) only [px_bd_s, px_psh_s, px_psh_n, px_vb_s, px_ib_s, px_wb_s, px_bo_s, px_bo_n, Bool.cond_decide, cond_true, cond_false, ite_not, Bool.and_true, if_true, if_false, not_true_eq_false, not_false_eq_true, i10, eq_self, decide_true, decide_false, Bool.or_true, Bool.true_or, Bool.or_false, Bool.false_or, hF.2.2.1, nI_leI, nI_eq, if_neg, px_inbT, nI_clamp]
    have ih := fun x y => m_best_l hF ha g (k + 1) x y (by omega)
    by_cases hka : k = a
    · rw [if_pos (Or.inl hka), if_pos hka, eX12_bestOf_57, nI_1]
      exact ih x y
    · by_cases hm : M 77 k = 1
      · have hne : ¬ (k = a ∨ ¬ M 77 k = 1) := by
          rintro (q | q)
          · exact hka q
          · exact q hm
        rw [if_neg hne, if_neg hka, if_pos hm]
        have mb := m_bonded2 d M J R c e nL xs D hF ha (show k < n by omega) 0
        rw [if_pos rfl] at mb
        simp only [px_bd_s, px_psh_s, px_psh_n, px_vb_s, px_ib_s, px_wb_s, px_bo_s, px_bo_n, Bool.cond_decide, cond_true, cond_false, ite_not, Bool.and_true, if_true, if_false, not_true_eq_false, not_false_eq_true, i10, eq_self, decide_true, decide_false, Bool.or_true, Bool.true_or, Bool.or_false, Bool.false_or, mb, eX12_bestOf_7_18, eX12_bestOf_7_25, eX12_bestOf_57, nI_1]
        by_cases hb : (bdp (M 81) (M 82) a k).1 ≤ y
        · rw [if_pos hb, if_pos hb]
          exact ih x y
        · rw [if_neg hb, if_neg hb]
          exact ih _ _
      · rw [if_pos (Or.inr hm), if_neg hka, if_neg hm, eX12_bestOf_57, nI_1]
        exact ih x y
theorem m_bestOf {n : Nat} {P : Nat → Nat} {H : Nat → Nat → Int32} (hF : IFn n P H (M 28 0) (M 67 13) (R 29) D (M 77) (M 78) (M 79) (M 80) (M 81) (M 82) (M 83) (M 84)) {a : Nat} (ha : a < n) : px_ex px_tab (d + 3) 235 [Value.ref (67), Value.int (nI a)] (hp (M) (J) (R) (c) (e) nL xs (D)) = some (some (Value.int (bst (M 77) (fun j => (bdp (M 81) (M 82) a j).1) a n 0 (-1) 1)), (hp (M) (J) (R) (c) (e) nL xs (D))) := by
  rw [xX12_bestOf, eX12_bestOf_0]
  exact m_best_l _ _ _ _ _ _ _ _ _ hF ha n 0 (-1) 1 (by omega)
theorem t_best (hI : IFd M R D) (v : Int32) : ∃ r M1 M2, px_ex px_tab (d + 4) 149 [Value.ref (13), Value.int (v)] (hp (M) (J) (R) (c) (e) nL xs (D)) = some (some (Value.int (r)), (hp (M1) (J) (R) (c) (e) nL xs (D))) ∧ px_ex px_tab (d + 4) 236 [Value.ref (67), Value.int (v)] (hp (M1) (J) (R) (c) (e) nL xs (D)) = some (some (Value.int (r)), (hp (M2) (J) (R) (c) (e) nL xs (D))) ∧ frm [49, 50] [] M M2 := by
  obtain ⟨n, P, H, hF⟩ := hI
  have hn := hF.1
  by_cases h1 : ∃ i, tmb n (M 77) v i
  · obtain ⟨i, hi⟩ := h1
    obtain ⟨M', hb, hfr⟩ := c_bestOf d M J R c e nL xs D hF hi
    have hF' : IFn n P H (M' 28 0) (M' 67 13) (R 29) D (M' 77) (M' 78) (M' 79) (M' 80) (M' 81) (M' 82) (M' 83) (M' 84) := by
      rw [hfr 28 (by decide) (by decide), hfr 67 (by decide) (by decide), hfr 77 (by decide) (by decide), hfr 78 (by decide) (by decide), hfr 79 (by decide) (by decide), hfr 80 (by decide) (by decide), hfr 81 (by decide) (by decide), hfr 82 (by decide) (by decide), hfr 83 (by decide) (by decide), hfr 84 (by decide) (by decide)]
      exact hF
    have hi' : tmb n (M' 77) v i := by rw [hfr 77 (by decide) (by decide)]; exact hi
    have m1 := m_tm_y d M' J R c e nL xs D hn hF'.2.2.1 hi'
    have mb := m_bestOf d M' J R c e nL xs D hF' hi.1
    rw [← hi.2.1, hfr 77 (by decide) (by decide), hfr 81 (by decide) (by decide), hfr 82 (by decide) (by decide)] at mb
    refine ⟨bst (M 77) (fun j => (bdp (M 81) (M 82) i j).1) i n 0 (-1) 1, M', M', ?_, ?_, ⟨fun a _ h => hfr a (fun q => h (by rw [q]; decide)) (fun q => h (by rw [q]; decide)), fun k _ => by rw [hfr 67 (by decide) (by decide)]⟩⟩
    · rw [xX11_best]
      simp only [px_bd_s, px_psh_s, px_psh_n, px_vb_s, px_ib_s, px_wb_s, px_bo_s, px_bo_n, Bool.cond_decide, cond_true, cond_false, ite_not, Bool.and_true, if_true, if_false, not_true_eq_false, not_false_eq_true, i10, eq_self, decide_true, decide_false, Bool.or_true, Bool.true_or, Bool.or_false, Bool.false_or, eX11_best_0, eX11_best_0_6, hb]
    · rw [xX12_best]
      simp only [px_bd_s, px_psh_s, px_psh_n, px_vb_s, px_ib_s, px_wb_s, px_bo_s, px_bo_n, Bool.cond_decide, cond_true, cond_false, ite_not, Bool.and_true, if_true, if_false, not_true_eq_false, not_false_eq_true, i10, eq_self, decide_true, decide_false, Bool.or_true, Bool.true_or, Bool.or_false, Bool.false_or, eX12_best_0, eX12_best_0_3, eX12_best_16, eX12_best_0_7, eX12_best_18, m1, mb]
  · have c1 := c_tm_n d M J R c e nL xs D hF h1
    have m1 := m_tm_n d M J R c e nL xs D hn hF.2.2.1 h1
    refine ⟨-2, M, M, ?_, ?_, frm.rf _ _ _⟩
    · rw [xX11_best]
      simp only [px_bd_s, px_psh_s, px_psh_n, px_vb_s, px_ib_s, px_wb_s, px_bo_s, px_bo_n, Bool.cond_decide, cond_true, cond_false, ite_not, Bool.and_true, if_true, if_false, not_true_eq_false, not_false_eq_true, i10, eq_self, decide_true, decide_false, Bool.or_true, Bool.true_or, Bool.or_false, Bool.false_or, eX11_best_0, eX11_best_0_6, xX8_bestOf, eX8_bestOf_0, eX8_bestOf_0_3_b, c1]
    · rw [xX12_best]
      simp only [px_bd_s, px_psh_s, px_psh_n, px_vb_s, px_ib_s, px_wb_s, px_bo_s, px_bo_n, Bool.cond_decide, cond_true, cond_false, ite_not, Bool.and_true, if_true, if_false, not_true_eq_false, not_false_eq_true, i10, eq_self, decide_true, decide_false, Bool.or_true, Bool.true_or, Bool.or_false, Bool.false_or, eX12_best_0, eX12_best_0_3, eX12_best_16, eX12_best_0_7, eX12_best_18, m1]
theorem t_joined (hI : IFd M R D) (v : Int32) : ∃ r M1 M2, px_ex px_tab (d + 4) 150 [Value.ref (13), Value.int (v)] (hp (M) (J) (R) (c) (e) nL xs (D)) = some (some (Value.int (r)), (hp (M1) (J) (R) (c) (e) nL xs (D))) ∧ px_ex px_tab (d + 4) 237 [Value.ref (67), Value.int (v)] (hp (M1) (J) (R) (c) (e) nL xs (D)) = some (some (Value.int (r)), (hp (M2) (J) (R) (c) (e) nL xs (D))) ∧ frm [49, 50] [] M M2 := by
  obtain ⟨n, P, H, hF⟩ := hI
  have hn := hF.1
  by_cases h1 : ∃ i, tmb n (M 77) v i
  · obtain ⟨i, hi⟩ := h1
    obtain ⟨M', hb, hfr⟩ := c_bestOf d M J R c e nL xs D hF hi
    have hF' : IFn n P H (M' 28 0) (M' 67 13) (R 29) D (M' 77) (M' 78) (M' 79) (M' 80) (M' 81) (M' 82) (M' 83) (M' 84) := by
      rw [hfr 28 (by decide) (by decide), hfr 67 (by decide) (by decide), hfr 77 (by decide) (by decide), hfr 78 (by decide) (by decide), hfr 79 (by decide) (by decide), hfr 80 (by decide) (by decide), hfr 81 (by decide) (by decide), hfr 82 (by decide) (by decide), hfr 83 (by decide) (by decide), hfr 84 (by decide) (by decide)]
      exact hF
    have hi' : tmb n (M' 77) v i := by rw [hfr 77 (by decide) (by decide)]; exact hi
    rcases bst_or (M 77) (fun j => (bdp (M 81) (M 82) i j).1) i n 0 (-1) 1 with hr | ⟨j, _, hj2, hj3, hr⟩
    · have m1 := m_tm_y d M' J R c e nL xs D hn hF'.2.2.1 hi'
      have mb := m_bestOf d M' J R c e nL xs D hF' hi.1
      rw [← hi.2.1, hfr 77 (by decide) (by decide), hfr 81 (by decide) (by decide), hfr 82 (by decide) (by decide), hr] at mb
      rw [hr] at hb
      refine ⟨-1, M', M', ?_, ?_, ⟨fun a _ h => hfr a (fun q => h (by rw [q]; decide)) (fun q => h (by rw [q]; decide)), fun k _ => by rw [hfr 67 (by decide) (by decide)]⟩⟩
      · rw [xX11_joined]
        simp only [px_bd_s, px_psh_s, px_psh_n, px_vb_s, px_ib_s, px_wb_s, px_bo_s, px_bo_n, Bool.cond_decide, cond_true, cond_false, ite_not, Bool.and_true, if_true, if_false, not_true_eq_false, not_false_eq_true, i10, eq_self, decide_true, decide_false, Bool.or_true, Bool.true_or, Bool.or_false, Bool.false_or, eX11_joined_0, eX11_joined_0_6, eX11_joined_19, eX11_joined_19_6, eX11_joined_39, eX11_joined_40, hb, if_neg (show ¬ (0 : Int32) ≤ -1 by decide)]
      · rw [xX12_joined]
        simp only [px_bd_s, px_psh_s, px_psh_n, px_vb_s, px_ib_s, px_wb_s, px_bo_s, px_bo_n, Bool.cond_decide, cond_true, cond_false, ite_not, Bool.and_true, if_true, if_false, not_true_eq_false, not_false_eq_true, i10, eq_self, decide_true, decide_false, Bool.or_true, Bool.true_or, Bool.or_false, Bool.false_or, eX12_joined_0, eX12_joined_0_3, eX12_joined_11, eX12_joined_11_3, eX12_joined_35, eX12_joined_11_10, eX12_joined_36, m1, mb]
    · have hj : tmb n (M' 77) (nI j) j := ⟨by omega, rfl, by rw [hfr 77 (by decide) (by decide)]; exact hj3⟩
      obtain ⟨M2, hb2, hfr2⟩ := c_bestOf d M' J R c e nL xs D hF' hj
      have hfr3 : ∀ a, a ≠ 49 → a ≠ 50 → M2 a = M a := fun a z1 z2 => (hfr2 a z1 z2).trans (hfr a z1 z2)
      have hF2 : IFn n P H (M2 28 0) (M2 67 13) (R 29) D (M2 77) (M2 78) (M2 79) (M2 80) (M2 81) (M2 82) (M2 83) (M2 84) := by
        rw [hfr3 28 (by decide) (by decide), hfr3 67 (by decide) (by decide), hfr3 77 (by decide) (by decide), hfr3 78 (by decide) (by decide), hfr3 79 (by decide) (by decide), hfr3 80 (by decide) (by decide), hfr3 81 (by decide) (by decide), hfr3 82 (by decide) (by decide), hfr3 83 (by decide) (by decide), hfr3 84 (by decide) (by decide)]
        exact hF
      have hi2 : tmb n (M2 77) v i := by rw [hfr3 77 (by decide) (by decide)]; exact hi
      have m1 := m_tm_y d M2 J R c e nL xs D hn hF2.2.2.1 hi2
      have mb := m_bestOf d M2 J R c e nL xs D hF2 hi.1
      have mb2 := m_bestOf d M2 J R c e nL xs D hF2 hj.1
      rw [← hi.2.1, hfr3 77 (by decide) (by decide), hfr3 81 (by decide) (by decide), hfr3 82 (by decide) (by decide), hr] at mb
      rw [hfr3 77 (by decide) (by decide), hfr3 81 (by decide) (by decide), hfr3 82 (by decide) (by decide)] at mb2
      rw [hfr 77 (by decide) (by decide), hfr 81 (by decide) (by decide), hfr 82 (by decide) (by decide)] at hb2
      rw [hr] at hb
      refine ⟨if bst (M 77) (fun z => (bdp (M 81) (M 82) j z).1) j n 0 (-1) 1 = v then nI j else -1, M2, M2, ?_, ?_, ⟨fun a _ h => hfr3 a (fun q => h (by rw [q]; decide)) (fun q => h (by rw [q]; decide)), fun k _ => by rw [hfr3 67 (by decide) (by decide)]⟩⟩
      · rw [xX11_joined]
        simp only [px_bd_s, px_psh_s, px_psh_n, px_vb_s, px_ib_s, px_wb_s, px_bo_s, px_bo_n, Bool.cond_decide, cond_true, cond_false, ite_not, Bool.and_true, if_true, if_false, not_true_eq_false, not_false_eq_true, i10, eq_self, decide_true, decide_false, Bool.or_true, Bool.true_or, Bool.or_false, Bool.false_or, eX11_joined_0, eX11_joined_0_6, eX11_joined_19, eX11_joined_19_6, eX11_joined_39, eX11_joined_40, hb, if_pos (nI_pos' (show j < 2 ^ 31 by omega)), hb2]
        split <;> rfl
      · rw [xX12_joined]
        simp only [px_bd_s, px_psh_s, px_psh_n, px_vb_s, px_ib_s, px_wb_s, px_bo_s, px_bo_n, Bool.cond_decide, cond_true, cond_false, ite_not, Bool.and_true, if_true, if_false, not_true_eq_false, not_false_eq_true, i10, eq_self, decide_true, decide_false, Bool.or_true, Bool.true_or, Bool.or_false, Bool.false_or, eX12_joined_0, eX12_joined_0_3, eX12_joined_11, eX12_joined_11_3, eX12_joined_35, eX12_joined_11_10, eX12_joined_36, m1, mb, if_neg (nI_n1 (show j < 2 ^ 31 by omega)), mb2]
        split <;> rfl
  · have c1 := c_tm_n d M J R c e nL xs D hF h1
    have m1 := m_tm_n d M J R c e nL xs D hn hF.2.2.1 h1
    refine ⟨-2, M, M, ?_, ?_, frm.rf _ _ _⟩
    · rw [xX11_joined]
      simp only [px_bd_s, px_psh_s, px_psh_n, px_vb_s, px_ib_s, px_wb_s, px_bo_s, px_bo_n, Bool.cond_decide, cond_true, cond_false, ite_not, Bool.and_true, if_true, if_false, not_true_eq_false, not_false_eq_true, i10, eq_self, decide_true, decide_false, Bool.or_true, Bool.true_or, Bool.or_false, Bool.false_or, eX11_joined_0, eX11_joined_0_6, eX11_joined_19, eX11_joined_19_6, eX11_joined_39, eX11_joined_40, xX8_bestOf, eX8_bestOf_0, eX8_bestOf_0_3_b, c1, if_neg (show ¬ (0 : Int32) ≤ -2 by decide)]
    · rw [xX12_joined]
      simp only [px_bd_s, px_psh_s, px_psh_n, px_vb_s, px_ib_s, px_wb_s, px_bo_s, px_bo_n, Bool.cond_decide, cond_true, cond_false, ite_not, Bool.and_true, if_true, if_false, not_true_eq_false, not_false_eq_true, i10, eq_self, decide_true, decide_false, Bool.or_true, Bool.true_or, Bool.or_false, Bool.false_or, eX12_joined_0, eX12_joined_0_3, eX12_joined_11, eX12_joined_11_3, eX12_joined_35, eX12_joined_11_10, eX12_joined_36, m1]
end S33c
