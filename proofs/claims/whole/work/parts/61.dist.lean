/-! PART 61: the class's root: steps that fall onto it -/
theorem am_1 (w t : Nat) : w * (w + 2 * t) ≤ (w + t) * (w + t) := by
  have e1 : w * (w + 2 * t) = w * w + 2 * (w * t) := by
    rw [Nat.mul_add, Nat.mul_left_comm]
  have e2 : (w + t) * (w + t) = w * w + w * t + (w * t + t * t) := by
    rw [Nat.add_mul, Nat.mul_add, Nat.mul_add, Nat.mul_comm t w]
  omega
theorem nw_ge {s x r : Nat} (hx : 0 < x) (hr : r * r ≤ s) : r ≤ (x + s / x) / 2 := by
  have h : 2 * r ≤ x + s / x := by
    rcases Nat.lt_or_ge (2 * r) x with q | q
    · exact Nat.le_trans (Nat.le_of_lt q) (Nat.le_add_right x _)
    · have z : (2 * r - x) * x ≤ s := by
        refine Nat.le_trans ?_ hr
        rcases Nat.lt_or_ge r x with w | w
        · have a := am_1 (2 * r - x) (x - r)
          rw [show 2 * r - x + 2 * (x - r) = x from by omega, show 2 * r - x + (x - r) = r from by omega] at a
          exact a
        · have a := am_1 x (r - x)
          rw [show x + 2 * (r - x) = 2 * r - x from by omega, show x + (r - x) = r from by omega] at a
          rw [Nat.mul_comm]
          exact a
      have y := (Nat.le_div_iff_mul_le hx).mpr z
      generalize s / x = w at y ⊢
      omega
  generalize s / x = w at h ⊢
  omega
theorem nw_le {s x : Nat} (hx : rt s < x) : s / x ≤ rt s := by
  have h := (rt_ok s).2
  have z : s / x < rt s + 1 := (Nat.div_lt_iff_lt_mul (by omega)).mpr (Nat.lt_of_lt_of_le h (Nat.mul_le_mul_left _ hx))
  omega
section S61
variable (d : Nat) (M : Nat → Nat → Int32) (J : Nat → Nat → Int64) (R : Nat → Nat → Option Nat) (c e nL : Nat) (xs : Nat → Int32) (D : px_H)
theorem c_dist_l {s : Nat} (h1 : 1 ≤ s) (hs : s ≤ 700000000) : ∀ (g k x : Nat) (o0 o1 o2 o6 : Option Value), k + g = 60 → rt s ≤ x → x - rt s < 2 ^ g → x ≤ 400000000 → px_run (px_mk (kX7_distance (px_ex px_tab d))) 32 ([o0, o1, o2, some (Value.int (nI s)), some (Value.int (nI x)), some (Value.int (nI k)), o6], [], (hp (M) (J) (R) (c) (e) nL xs (D))) = some (some (Value.int (nI (rt s))), (hp (M) (J) (R) (c) (e) nL xs (D)))
  | 0, k, x, o0, o1, o2, o6, hk, hx, hg, hb => by
    rw [eX7_distance_32, show x = rt s from by have : (2 : Nat) ^ 0 = 1 := rfl; omega]
    simp (disch := omega) only [px_bd_s, px_psh_s, px_psh_n, px_vb_s, px_ib_s, px_wb_s, px_bo_s, px_bo_n, Bool.cond_decide, cond_true, cond_false, ite_not, Bool.and_true, if_true, if_false, not_true_eq_false, not_false_eq_true, i10, eq_self, decide_true, decide_false, Bool.or_true, Bool.true_or, Bool.or_false, Bool.false_or, za60, if_pos, eX7_distance_75]
  | g + 1, k, x, o0, o1, o2, o6, hk, hx, hg, hb => by
    have r1 : 1 ≤ rt s := rt_le.mpr h1
    have e0 : ¬ nI x ≤ 0 := fun q => by
      have := (nI_leI (a := x) (b := 0) (by omega) (by decide)).mp q
      omega
    have e1 : ¬ nI x = 0 := fun q => by
      have := (nI_eq (a := x) (b := 0) (by omega) (by decide)).mp q
      omega
    have d1 : nI s / nI x = nI (s / x) := pk_div (by omega) (by omega) (by omega)
    have b1 : s / x ≤ s := Nat.div_le_self s x
    have d2 : nI (x + s / x) / 2 = nI ((x + s / x) / 2) := pk_div (d := 2) (by omega) (by decide) (by decide)
    have x3 : (nI ((x + s / x) / 2) < nI x) ↔ (x + s / x) / 2 < x := nI_ltI (by omega) (by omega)
    have x6 : ¬ (60 : Int32) ≤ nI k := fun q => by
      have := (za60 (i := k) (by omega)).mp q
      omega
    have ge := nw_ge (s := s) (x := x) (r := rt s) (by omega) (rt_ok s).1
    rw [eX7_distance_32]
    simp only [px_bd_s, px_psh_s, px_psh_n, px_vb_s, px_ib_s, px_wb_s, px_bo_s, px_bo_n, Bool.cond_decide, cond_true, cond_false, ite_not, Bool.and_true, if_true, if_false, not_true_eq_false, not_false_eq_true, i10, eq_self, decide_true, decide_false, Bool.or_true, Bool.true_or, Bool.or_false, Bool.false_or, x6, e0, e1, d1, nI_add, d2, x3, Bool.not_false]
    by_cases hq : (x + s / x) / 2 < x
    · have hl : rt s < x := by omega
      have le := nw_le hl
      simp only [hq, if_true, eX7_distance_65, zp1]
      exact c_dist_l h1 hs g (k + 1) ((x + s / x) / 2) _ _ _ _ (by omega) ge (by rw [Nat.pow_succ] at hg; omega) (by omega)
    · simp only [hq, if_false, eX7_distance_75]
      rcases Nat.lt_or_ge (rt s) x with w | w
      · have le := nw_le w
        omega
      · rw [show x = rt s from by omega]
theorem c_dist {s g : Nat} (hs : s ≤ 700000000) (hg : 1 ≤ g) (hg2 : g ≤ 15000) (v u : Int32) (hv : v * v + u * u = nI s) : px_ex px_tab (d + 1) 91 [Value.int (v), Value.int (u), Value.int (nI g)] (hp (M) (J) (R) (c) (e) nL xs (D)) = some (some (Value.int (nI (rt s))), (hp (M) (J) (R) (c) (e) nL xs (D))) := by
  rw [xX7_distance, eX7_distance_0, hv]
  rcases Nat.eq_zero_or_pos s with q | q
  · subst q
    simp only [px_bd_s, px_psh_s, px_psh_n, px_vb_s, px_ib_s, px_wb_s, px_bo_s, px_bo_n, Bool.cond_decide, cond_true, cond_false, ite_not, Bool.and_true, if_true, if_false, not_true_eq_false, not_false_eq_true, i10, eq_self, decide_true, decide_false, Bool.or_true, Bool.true_or, Bool.or_false, Bool.false_or, show nI 0 < 1 from by decide, eX7_distance_18]
    rfl
  · have e1 : ¬ nI s < 1 := fun z => by
      have := (nI_ltI (a := s) (b := 1) (by omega) (by decide)).mp z
      omega
    have e2 : (1 : Int32) ≤ nI g := (nI_leI (a := 1) (b := g) (by decide) (by omega)).mpr hg
    have e3 : ¬ nI g = 0 := fun z => by
      have := (nI_eq (a := g) (b := 0) (by omega) (by decide)).mp z
      omega
    have d1 : nI s / nI g = nI (s / g) := pk_div (by omega) (by omega) (by omega)
    have b1 : s / g ≤ s := Nat.div_le_self s g
    have d2 : nI (g + s / g) / 2 = nI ((g + s / g) / 2) := pk_div (d := 2) (by omega) (by decide) (by decide)
    have ge := nw_ge (s := s) (x := g) (r := rt s) (by omega) (rt_ok s).1
    simp only [px_bd_s, px_psh_s, px_psh_n, px_vb_s, px_ib_s, px_wb_s, px_bo_s, px_bo_n, Bool.cond_decide, cond_true, cond_false, ite_not, Bool.and_true, if_true, if_false, not_true_eq_false, not_false_eq_true, i10, eq_self, decide_true, decide_false, Bool.or_true, Bool.true_or, Bool.or_false, Bool.false_or, e1, e2, eX7_distance_20, e3, d1, nI_add, d2, Bool.not_false]
    exact c_dist_l d M J R c e nL xs D q hs 60 0 _ _ _ _ _ (by omega) ge (by omega) (by omega)
end S61
