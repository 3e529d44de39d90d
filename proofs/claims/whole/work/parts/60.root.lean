/-! PART 60: the model's root -/
theorem sh_1 : ∀ j, j < 16 → nI (2 ^ j) >>> (1 &&& 31) = nI (2 ^ j / 2) := by decide
section S60
variable (d : Nat) (M : Nat → Nat → Int32) (J : Nat → Nat → Int64) (R : Nat → Nat → Option Nat) (c e nL : Nat) (xs : Nat → Int32) (D : px_H)
theorem m_root_l {s : Nat} (hs : s < 2 ^ 31) : ∀ (j r : Nat) (o : Option Value), r * r ≤ s → s < (r + 2 ^ j) * (r + 2 ^ j) → r + 2 ^ j ≤ 65536 → j ≤ 16 → px_run (px_mk (kX12_root (px_ex px_tab d))) 5 ([some (Value.int (nI s)), some (Value.int (nI r)), some (Value.int (nI (2 ^ j / 2))), o], [], (hp (M) (J) (R) (c) (e) nL xs (D))) = some (some (Value.int (nI (rt s))), (hp (M) (J) (R) (c) (e) nL xs (D)))
  | 0, r, o, h1, h2, h3, hj => by
    rw [eX12_root_5, rt_un h1 h2]
    simp only [px_bd_s, px_psh_s, px_psh_n, px_vb_s, px_ib_s, px_wb_s, px_bo_s, px_bo_n, Bool.cond_decide, cond_true, cond_false, ite_not, Bool.and_true, if_true, if_false, not_true_eq_false, not_false_eq_true, i10, eq_self, decide_true, decide_false, Bool.or_true, Bool.true_or, Bool.or_false, Bool.false_or, show nI (2 ^ 0 / 2) ≤ 0 from by decide, eX12_root_39]
  | j + 1, r, o, h1, h2, h3, hj => by
    have e2 : 2 ^ (j + 1) / 2 = 2 ^ j := by
      rw [Nat.pow_succ]
      omega
    have p1 : 1 ≤ 2 ^ j := Nat.one_le_two_pow
    rw [Nat.pow_succ] at h2 h3
    have hz : ¬ nI (2 ^ j) ≤ 0 := fun q => by
      have := (nI_leI (a := 2 ^ j) (b := 0) (by omega) (by decide)).mp q
      omega
    have sh := sh_1 j (by omega)
    have x1 : ((46340 : Int32) < nI (r + 2 ^ j)) ↔ 46340 < r + 2 ^ j := nI_ltI (a := 46340) (by decide) (by omega)
    rw [eX12_root_5, e2]
    simp only [px_bd_s, px_psh_s, px_psh_n, px_vb_s, px_ib_s, px_wb_s, px_bo_s, px_bo_n, Bool.cond_decide, cond_true, cond_false, ite_not, Bool.and_true, if_true, if_false, not_true_eq_false, not_false_eq_true, i10, eq_self, decide_true, decide_false, Bool.or_true, Bool.true_or, Bool.or_false, Bool.false_or, hz, nI_add, x1, pk_mul]
    by_cases ht : 46340 < r + 2 ^ j
    · have z : 46341 * 46341 ≤ (r + 2 ^ j) * (r + 2 ^ j) := Nat.mul_le_mul ht ht
      simp only [px_bd_s, px_psh_s, px_psh_n, px_vb_s, px_ib_s, px_wb_s, px_bo_s, px_bo_n, Bool.cond_decide, cond_true, cond_false, ite_not, Bool.and_true, if_true, if_false, not_true_eq_false, not_false_eq_true, i10, eq_self, decide_true, decide_false, Bool.or_true, Bool.true_or, Bool.or_false, Bool.false_or, ht, eX12_root_30, eX12_root_31, sh]
      exact m_root_l hs j r _ h1 (by omega) (by omega) (by omega)
    · have z : (r + 2 ^ j) * (r + 2 ^ j) ≤ 46340 * 46340 := Nat.mul_le_mul (by omega) (by omega)
      have x2 : (nI s < nI ((r + 2 ^ j) * (r + 2 ^ j))) ↔ s < (r + 2 ^ j) * (r + 2 ^ j) := nI_ltI (by omega) (by omega)
      by_cases hq : s < (r + 2 ^ j) * (r + 2 ^ j)
      · simp only [px_bd_s, px_psh_s, px_psh_n, px_vb_s, px_ib_s, px_wb_s, px_bo_s, px_bo_n, Bool.cond_decide, cond_true, cond_false, ite_not, Bool.and_true, if_true, if_false, not_true_eq_false, not_false_eq_true, i10, eq_self, decide_true, decide_false, Bool.or_true, Bool.true_or, Bool.or_false, Bool.false_or, ht, x2, hq, eX12_root_30, eX12_root_31, sh]
        exact m_root_l hs j r _ h1 hq (by omega) (by omega)
      · simp only [px_bd_s, px_psh_s, px_psh_n, px_vb_s, px_ib_s, px_wb_s, px_bo_s, px_bo_n, Bool.cond_decide, cond_true, cond_false, ite_not, Bool.and_true, if_true, if_false, not_true_eq_false, not_false_eq_true, i10, eq_self, decide_true, decide_false, Bool.or_true, Bool.true_or, Bool.or_false, Bool.false_or, ht, x2, hq, eX12_root_31, sh]
        refine m_root_l hs j (r + 2 ^ j) _ (by omega) ?_ (by omega) (by omega)
        rw [show r + 2 ^ j + 2 ^ j = r + 2 ^ j * 2 from by omega]
        exact h2
theorem m_root {s : Nat} (hs : s < 2 ^ 31) : px_ex px_tab (d + 1) 173 [Value.int (nI s)] (hp (M) (J) (R) (c) (e) nL xs (D)) = some (some (Value.int (nI (rt s))), (hp (M) (J) (R) (c) (e) nL xs (D))) := by
  rw [xX12_root, eX12_root_0]
  exact m_root_l d M J R c e nL xs D hs 16 0 none (by omega) (by omega) (by decide) (by decide)
end S60
