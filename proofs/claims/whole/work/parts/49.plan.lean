/-! PART 49: PLANS: an order and its digits; the class keeps the plan -/
/-- the first k digits as a number; the worth of them -/
def xd (b : Nat → Nat) : Nat → Nat
  | 0 => 0
  | k + 1 => 5 * xd b k + b k
def wsm (wo b : Nat → Nat) : Nat → Nat
  | 0 => 0
  | k + 1 => wsm wo b k + (if b k = 4 then 0 else wo k)
theorem xd_lt (b : Nat → Nat) : ∀ k, (∀ t, t < k → b t ≤ 4) → xd b k < 5 ^ k
  | 0, _ => Nat.one_pos
  | k + 1, h => by
    have ih := xd_lt b k (fun t ht => h t (by omega))
    have := h k (by omega)
    unfold xd
    rw [Nat.pow_succ]
    omega
theorem wsm_le (wo b : Nat → Nat) (n : Nat) (hw : ∀ t, t < n → wo t ≤ 999) : ∀ k, k ≤ n → wsm wo b k ≤ 999 * k
  | 0, _ => Nat.le_refl _
  | k + 1, h => by
    have ih := wsm_le wo b n hw k (by omega)
    have := hw k (by omega)
    unfold wsm
    split <;> omega
theorem xd_div (b : Nat → Nat) (t : Nat) : ∀ j, (∀ i, i < t + 1 + j → b i ≤ 4) → xd b (t + 1 + j) / 5 ^ j = xd b (t + 1)
  | 0, _ => by rw [Nat.pow_zero, Nat.div_one, Nat.add_zero]
  | j + 1, h => by
    have ih := xd_div b t j (fun i hi => h i (by omega))
    have hb := h (t + 1 + j) (by omega)
    rw [show t + 1 + (j + 1) = t + 1 + j + 1 from rfl]
    rw [show xd b (t + 1 + j + 1) = 5 * xd b (t + 1 + j) + b (t + 1 + j) from rfl, Nat.pow_succ, Nat.mul_comm (5 ^ j) 5, ← Nat.div_div_eq_div_mul, show (5 * xd b (t + 1 + j) + b (t + 1 + j)) / 5 = xd b (t + 1 + j) from by omega]
    exact ih
/-- a digit of an order -/
theorem dig_of {b : Nat → Nat} {n t : Nat} (hn : n ≤ 9) (ht : t < n) (hb : ∀ i, i < n → b i ≤ 4) : xd b n * 5 ^ (9 - n) / 5 ^ (8 - t) % 5 = b t := by
  have e1 : 5 ^ (8 - t) = 5 ^ (9 - n) * 5 ^ (n - (t + 1)) := by
    rw [← Nat.pow_add]
    congr 1
    omega
  rw [e1, ← Nat.div_div_eq_div_mul, Nat.mul_div_cancel _ (Nat.pow_pos (by decide))]
  have := xd_div b t (n - (t + 1)) (fun i hi => hb i (by omega))
  rw [show t + 1 + (n - (t + 1)) = n from by omega] at this
  rw [this]
  have h4 := hb t ht
  show (5 * xd b t + b t) % 5 = b t
  omega
theorem all_bit (n t : Nat) : (2 ^ n - 1).testBit t = decide (t < n) := Nat.testBit_two_pow_sub_one n t
/-- the merit of a plan of all tasks -/
theorem mer_all {wo b : Nat → Nat} {n : Nat} (hn : n ≤ 9) (hb : ∀ t, t < n → b t ≤ 4) : mer (fun t => (wo t : Int)) b (2 ^ n - 1) = (wsm wo b n : Int) * 1953125 - ((xd b n * 5 ^ (9 - n) : Nat) : Int) := by
  have key : ∀ k, k ≤ 9 → bs (fun t => ct (fun t => (wo t : Int)) t (b t)) (2 ^ n - 1) k = (wsm wo b (min k n) : Int) * 1953125 - ((xd b (min k n) * 5 ^ (9 - min k n) : Nat) : Int) := by
    intro k
    induction k with
    | zero =>
      intro _
      rw [show min 0 n = 0 from by omega]
      show (0 : Int) = (0 : Nat) * 1953125 - ((0 * 5 ^ 9 : Nat) : Int)
      all_goals simp
    | succ k ih =>
      intro hk
      rw [bs_s, ih (by omega), all_bit]
      by_cases h : k < n
      · rw [decide_eq_true h, show min k n = k from by omega, show min (k + 1) n = k + 1 from by omega, if_pos rfl]
        have e1 : 5 ^ (9 - k) = 5 * 5 ^ (9 - (k + 1)) := by
          rw [show 9 - k = 9 - (k + 1) + 1 from by omega, Nat.pow_succ, Nat.mul_comm]
        have e2 : pl5 k = ((5 ^ (9 - (k + 1)) : Nat) : Int) := by
          unfold pl5
          rw [show 8 - k = 9 - (k + 1) from by omega]
        unfold ct
        rw [e2, e1]
        show _ = ((wsm wo b k + (if b k = 4 then 0 else wo k) : Nat) : Int) * 1953125 - (((5 * xd b k + b k) * 5 ^ (9 - (k + 1)) : Nat) : Int)
        generalize 5 ^ (9 - (k + 1)) = z
        have e3 : (((5 * xd b k + b k) * z : Nat) : Int) = ((xd b k * (5 * z) : Nat) : Int) + (b k : Int) * (z : Int) := by
          rw [Nat.add_mul, Int.natCast_add, Int.natCast_mul (b k) z]
          congr 2
          rw [Nat.mul_comm 5, Nat.mul_assoc]
        rw [e3]
        generalize ((xd b k * (5 * z) : Nat) : Int) = y
        by_cases h4 : b k = 4
        · rw [if_pos h4, if_pos h4, h4]
          omega
        · rw [if_neg h4, if_neg h4, Int.natCast_add, Int.add_mul]
          generalize (b k : Int) * (z : Int) = q
          dsimp only
          omega
      · rw [decide_eq_false h, show min k n = n from by omega, show min (k + 1) n = n from by omega]
        all_goals simp
  have := key 9 (by omega)
  rw [show min 9 n = n from by omega] at this
  exact this
theorem ord_lt {b : Nat → Nat} {n : Nat} (hn : n ≤ 9) (hb : ∀ t, t < n → b t ≤ 4) : xd b n * 5 ^ (9 - n) < 1953125 := by
  have h1 := xd_lt b n hb
  have h2 : 5 ^ n * 5 ^ (9 - n) = 1953125 := by
    rw [← Nat.pow_add, show n + (9 - n) = 9 from by omega]
  have h3 : xd b n * 5 ^ (9 - n) < 5 ^ n * 5 ^ (9 - n) := Nat.mul_lt_mul_of_pos_right h1 (Nat.pow_pos (by decide))
  omega
section S49
variable (d : Nat) (J : Nat → Nat → Int64) (R : Nat → Nat → Option Nat) (c e nL : Nat) (xs : Nat → Int32) (D : px_H)
theorem pv_5 : ∀ t, t ≤ 8 → 390625 / 5 ^ t = 5 ^ (8 - t) := by decide
theorem c_keep_l {n ob : Nat} {b : Nat → Nat} (hn : n ≤ 9) (hob : ob < 1953125) (hd : ∀ t, t < n → ob / 5 ^ (8 - t) % 5 = b t) : ∀ (g t : Nat) (M : Nat → Nat → Int32) (o o' o6 : Option Value), M 51 0 = nI n → t + g = n → ∃ r, px_run (px_mk (kX3_keepPlan (px_ex px_tab d))) 36 ([some (.ref 51), o, o', some (.int (nI ob)), some (.int (nI (390625 / 5 ^ t))), some (.int (nI t)), o6], [], (hp M J R c e nL xs D)) = some (none, (hp (px_uR M 57 r) (J) (R) (c) (e) nL xs (D))) ∧ (∀ i, t ≤ i → i < n → r i = if b i = 4 then -1 else nI (b i)) ∧ ∀ i, i < t → r i = M 57 i
  | 0, t, M, o, o', o6, h51, ht => by
    refine ⟨M 57, ?_, fun i h1 h2 => by omega, fun i _ => rfl⟩
    rw [eX3_keepPlan_36, h51, px_uR_id]
    simp (disch := omega) only [px_bd_s, px_psh_s, px_psh_n, px_vb_s, px_ib_s, px_wb_s, px_bo_s, px_bo_n, Bool.cond_decide, cond_true, cond_false, ite_not, Bool.and_true, if_true, if_false, not_true_eq_false, not_false_eq_true, i10, eq_self, decide_true, decide_false, Bool.or_true, Bool.true_or, Bool.or_false, Bool.false_or, nI_leI, if_pos, eX3_keepPlan_89]
  | g + 1, t, M, o, o', o6, h51, ht => by
    have hd := hd t (by omega)
    have hpv := pv_5 t (by omega)
    have hp0 : 0 < 5 ^ (8 - t) := Nat.pow_pos (by decide)
    have hp1 : 5 ^ (8 - t) ≤ 5 ^ 8 := Nat.pow_le_pow_right (by decide) (by omega)
    have hp2 : (5 : Nat) ^ 8 = 390625 := by decide
    have hbt : b t ≤ 4 := by omega
    have edig : nI ob / nI (5 ^ (8 - t)) - nI ob / nI (5 ^ (8 - t)) / 5 * 5 = nI (b t) := by
      rw [pk_div (by omega) hp0 (by omega)]
      have hle : ob / 5 ^ (8 - t) ≤ ob := Nat.div_le_self _ _
      have := pk_rem (a := ob / 5 ^ (8 - t)) (d := 5) (by omega) (by decide) (by decide)
      rw [hd] at this
      exact this
    have edv : nI (5 ^ (8 - t)) / 5 = nI (390625 / 5 ^ (t + 1)) := by
      rw [show nI (5 ^ (8 - t)) / 5 = nI (5 ^ (8 - t) / 5) from pk_div (d := 5) (by omega) (by decide) (by decide), ← hpv, Nat.div_div_eq_div_mul, ← Nat.pow_succ]
    have step : ∀ (M' : Nat → Nat → Int32), M' 51 0 = nI n → ∀ (M0 : Nat → Int32) (x : Int32), M' = px_uR M 57 (upd (M 57) t x) → x = (if b t = 4 then -1 else nI (b t)) → ∃ r, px_run (px_mk (kX3_keepPlan (px_ex px_tab d))) 36 ([some (.ref 51), none, none, some (.int (nI ob)), some (.int (nI (390625 / 5 ^ (t + 1)))), some (.int (nI (t + 1))), none], [], hp M' J R c e nL xs D) = some (none, (hp (px_uR M 57 r) (J) (R) (c) (e) nL xs (D))) ∧ (∀ i, t ≤ i → i < n → r i = if b i = 4 then -1 else nI (b i)) ∧ ∀ i, i < t → r i = M 57 i := by
      rintro M' h51' M0 x rfl hx
      obtain ⟨r, r1, r2, r3⟩ := c_keep_l hn hob ‹_› g (t + 1) _ none none none h51' (by omega)
      refine ⟨r, ?_, fun i h1 h2 => ?_, fun i hi => ?_⟩
      · rw [px_uR_2] at r1
        exact r1
      · rcases Nat.lt_or_ge t i with q | q
        · exact r2 i q h2
        · rw [show i = t from by omega, r3 t (by omega)]
          show upd (M 57) t x t = _
          rw [pk_us]
          exact hx
      · rw [r3 i (by omega)]
        show upd (M 57) t x i = _
        rw [pk_un (by omega)]
    rw [eX3_keepPlan_36, h51, hpv]
    have hne : ¬ nI (5 ^ (8 - t)) = 0 := nI_ne0 hp0 (by omega)
    by_cases h4 : b t = 4
    · obtain ⟨r, r1, r2⟩ := step _ (show (px_uR M 57 (upd (M 57) t (-1))) 51 0 = nI n from h51) (M 57) (-1) rfl (by rw [if_pos h4])
      refine ⟨r, ?_, r2⟩
      rw [← r1]
      simp (disch := omega) only [px_bd_s, px_psh_s, px_psh_n, px_vb_s, px_ib_s, px_wb_s, px_bo_s, px_bo_n, Bool.cond_decide, cond_true, cond_false, ite_not, Bool.and_true, if_true, if_false, not_true_eq_false, not_false_eq_true, i10, eq_self, decide_true, decide_false, Bool.or_true, Bool.true_or, Bool.or_false, Bool.false_or, nI_leI, if_neg, zc0, decide_eq_false hne, Bool.not_false, edig, h4, show nI 4 = 4 from rfl, eX3_keepPlan_76, px_inbT, nI_clamp, edv, nI_1]
    · have h4' : ¬ nI (b t) = 4 := by
        rw [ze4 (by omega)]
        exact h4
      obtain ⟨r, r1, r2⟩ := step _ (show (px_uR M 57 (upd (M 57) t (nI (b t)))) 51 0 = nI n from h51) (M 57) (nI (b t)) rfl (by rw [if_neg h4])
      refine ⟨r, ?_, r2⟩
      rw [← r1]
      simp (disch := omega) only [px_bd_s, px_psh_s, px_psh_n, px_vb_s, px_ib_s, px_wb_s, px_bo_s, px_bo_n, Bool.cond_decide, cond_true, cond_false, ite_not, Bool.and_true, if_true, if_false, not_true_eq_false, not_false_eq_true, i10, eq_self, decide_true, decide_false, Bool.or_true, Bool.true_or, Bool.or_false, Bool.false_or, nI_leI, if_neg, zc0, decide_eq_false hne, Bool.not_false, edig, if_neg h4', h4', eX3_keepPlan_74, eX3_keepPlan_76, px_inbT, nI_clamp, edv, nI_1]
theorem c_keep {n : Nat} {wo b : Nat → Nat} {m : Int64} (M : Nat → Nat → Int32) (hn : n ≤ 9) (h51 : M 51 0 = nI n) (hw : ∀ t, t < n → wo t ≤ 999) (hb : ∀ t, t < n → b t ≤ 4) (hm : m.toInt = mer (fun t => (wo t : Int)) b (2 ^ n - 1)) : ∃ r, px_ex px_tab (d + 1) 37 [.ref 51, .long m] (hp M J R c e nL xs D) = some (none, (hp (px_uR (px_uR M 51 (upd (M 51) 8 (nI (wsm wo b n)))) 57 r) (J) (R) (c) (e) nL xs (D))) ∧ ∀ i, i < n → r i = if b i = 4 then -1 else nI (b i) := by
  rw [mer_all hn hb] at hm
  have hob := ord_lt hn hb
  have hws := wsm_le wo b n hw n (Nat.le_refl _)
  have hd := fun t (ht : t < n) => dig_of hn ht hb
  generalize xd b n * 5 ^ (9 - n) = ob at hm hob hd
  generalize wsm wo b n = W at hm hws
  have e1 : m + 1953125 - 1 = lN (W * 1953125 + (1953124 - ob)) := by
    apply Int64.toInt_inj.mp
    have a1 : (1953125 : Int64).toInt = 1953125 := rfl
    have a2 : (1 : Int64).toInt = 1 := rfl
    have a3 : (m + 1953125).toInt = m.toInt + 1953125 := j_add (by omega) (by omega) (by rw [a1]; omega) (by rw [a1]; omega)
    rw [j_sub (by rw [a3]; omega) (by rw [a3]; omega) (by rw [a2]; omega) (by rw [a2]; omega), a3, a2, pk_lT (by omega)]
    omega
  have e2 : lN (W * 1953125 + (1953124 - ob)) / 1953125 = lN W := by
    rw [show (1953125 : Int64) = lN 1953125 from rfl, pk_lDiv (by omega) (by decide) (by decide)]
    congr 1
    omega
  have e3 : (lN W).toInt32 = nI W := lN_i W
  have e4 : (nI W).toInt64 * 1953125 - m = lN ob := by
    rw [nI_l (by omega), show (1953125 : Int64) = lN 1953125 from rfl, lN_mul]
    apply Int64.toInt_inj.mp
    rw [j_sub (by rw [pk_lT (by omega)]; omega) (by rw [pk_lT (by omega)]; omega) (by omega) (by omega), pk_lT (by omega), pk_lT (by omega)]
    omega
  obtain ⟨r, r1, r2, r3⟩ := c_keep_l d J R c e nL xs D hn hob hd n 0 (px_uR M 51 (upd (M 51) 8 (nI W))) (some (.long m)) none none h51 (by omega)
  refine ⟨r, ?_, fun i hi => r2 i (Nat.zero_le _) hi⟩
  rw [xX3_keepPlan, eX3_keepPlan_0, e1, e2, e3, e4, lN_i]
  exact r1
end S49
