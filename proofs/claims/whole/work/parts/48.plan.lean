/-! PART 48: PLANS: the class's plan -/
theorem px_uJ_2 (J : Nat → Nat → Int64) (a : Nat) (r r' : Nat → Int64) : px_uJ (px_uJ J a r) a r' = px_uJ J a r' := by
  funext b
  unfold px_uJ
  cases Nat.beq b a <;> rfl
theorem px_uJ_id (J : Nat → Nat → Int64) (a : Nat) : px_uJ J a (J a) = J := by
  funext b
  unfold px_uJ
  cases hb : Nat.beq b a with
  | false => rfl
  | true => rw [Nat.eq_of_beq_eq_true hb]; rfl
theorem bs_z (f : Nat → Int) : ∀ k, bs f 0 k = 0
  | 0 => rfl
  | k + 1 => by rw [bs_s, bs_z f k, Nat.zero_testBit]; rfl
theorem isV_e (w mn cap : Nat → Int) (ng g : Nat) (hc : ∀ h, 0 ≤ cap h) : isV w mn cap ng g 0 0 := by
  refine ⟨fun a _ => ?_, fun _ => 4, ⟨fun t _ hb => Or.inr rfl, fun h _ _ => ?_⟩, ?_⟩
  · unfold mer
    rw [bs_z]
    exact Int.le_refl _
  · unfold ldg
    rw [bs_z]
    exact hc h
  · unfold mer
    rw [bs_z]
theorem isV_b {mn cap : Nat → Int} {wo : Nat → Nat} {ng g s n : Nat} {v : Int} (hng : ng ≤ 4) (hw : ∀ t, t < n → wo t ≤ 999) (hs : s < 2 ^ n) (h : isV (fun t => (wo t : Int)) mn cap ng g s v) : -2 ^ 40 < v ∧ v < 2 ^ 40 := by
  obtain ⟨_, a, h1, h2⟩ := h
  have hb : ∀ t, s.testBit t = true → t < n := by
    intro t ht
    rcases Nat.lt_or_ge t n with q | q
    · exact q
    · rw [Nat.testBit_lt_two_pow (Nat.lt_of_lt_of_le hs (Nat.pow_le_pow_right (by decide) q))] at ht
      cases ht
  rw [← h2]
  apply mer_b
  · intro t _ ht
    have := hw t (hb t ht)
    omega
  · intro t ht hst
    rcases h1.1 t ht hst with q | q <;> omega
section S48
variable (d : Nat) (M : Nat → Nat → Int32) (R : Nat → Nat → Option Nat) (c e nL : Nat) (xs : Nat → Int32) (D : px_H)
theorem c_give_l {n ng g : Nat} {mn wo cap : Nat → Nat} (hg : g < ng) : ∀ (s : Nat) (J : Nat → Nat → Int64) (o2 o4 o5 o6 o7 o8 : Option Value), tab M (J 55) n ng mn wo cap → s < 2 ^ n → (∀ r, r ≤ s → isV (fun t => (wo t : Int)) (fun t => (mn t : Int)) (fun t => (cap t : Int)) ng (g + 1) r (J 56 r).toInt) → (∀ r, s < r → r < 2 ^ n → isV (fun t => (wo t : Int)) (fun t => (mn t : Int)) (fun t => (cap t : Int)) ng g r (J 56 r).toInt) → ∃ J', px_run (px_mk (kX3_giveToGang (px_ex px_tab d))) 2 ([some (.ref 51), some (.int (nI g)), o2, some (.int (nI s)), o4, o5, o6, o7, o8], [], (hp M J R c e nL xs D)) = some (none, (hp (M) (px_uJ J 56 J') (R) (c) (e) nL xs (D))) ∧ ∀ r, r < 2 ^ n → isV (fun t => (wo t : Int)) (fun t => (mn t : Int)) (fun t => (cap t : Int)) ng g r (J' r).toInt
  | 0, J, o2, o4, o5, o6, o7, o8, hT, hs, h1, h2 => by
    refine ⟨J 56, ?_, fun r hr => ?_⟩
    · rw [eX3_giveToGang_2, px_uJ_id]
      simp (disch := omega) only [px_bd_s, px_psh_s, px_psh_n, px_vb_s, px_ib_s, px_wb_s, px_bo_s, px_bo_n, Bool.cond_decide, cond_true, cond_false, ite_not, Bool.and_true, if_true, if_false, not_true_eq_false, not_false_eq_true, i10, eq_self, decide_true, decide_false, Bool.or_true, Bool.true_or, Bool.or_false, Bool.false_or, zc0, if_pos, eX3_giveToGang_102]
    · rcases Nat.eq_zero_or_pos r with q | q
      · subst q
        have e0 := isV_u (h1 0 (Nat.le_refl _)) (isV_e (fun t => (wo t : Int)) (fun t => (mn t : Int)) (fun t => (cap t : Int)) ng (g + 1) (fun h => by omega))
        rw [e0]
        exact isV_e _ _ _ _ _ (fun h => by omega)
      · exact h2 r q hr
  | s + 1, J, o2, o4, o5, o6, o7, o8, hT, hs, h1, h2 => by
    have hng := hT.2.1
    have h512 := (tab_b hT hs).2.2.2
    have hJ : ∀ r, r < 2 ^ n → -2 ^ 41 < (J 56 r).toInt ∧ (J 56 r).toInt < 2 ^ 41 := by
      intro r hr
      rcases Nat.lt_or_ge (s + 1) r with q | q
      · have := isV_b hng (fun t ht => (hT.2.2.1 t ht).2) hr (h2 r q hr)
        omega
      · have := isV_b hng (fun t ht => (hT.2.2.1 t ht).2) hr (h1 r q)
        omega
    have hv := hJ (s + 1) hs
    obtain ⟨v', r1, r2, r3, r4, r5⟩ := c_part_l d M R c e nL xs D hT hg hs hJ (s + 1) (Nat.and_self _) (J 56 (s + 1)) (by omega) (by omega) none none
    have hV : isV (fun t => (wo t : Int)) (fun t => (mn t : Int)) (fun t => (cap t : Int)) ng g (s + 1) v'.toInt := by
      refine isV_s (u := fun r => (J 56 r).toInt) h512 hg hng (fun r hr hsub => h1 r ?_) (fun q hq hsub hcap => ?_) ?_
      · have := sub_and.mpr hsub
        rw [← this]
        exact Nat.and_le_right
      · rcases Nat.eq_zero_or_pos q with z | z
        · subst z
          rw [bs_z, bs_z]
          all_goals simp
          exact r2
        · have hqs := sub_and.mpr hsub
          exact r4 q hqs z (by rw [← hqs]; exact Nat.and_le_right) hcap
      · rcases r5 with z | ⟨q, q1, q2, q3⟩
        · refine ⟨0, by decide, (fun t ht => by rw [Nat.zero_testBit] at ht; cases ht), ?_, ?_⟩
          · rw [bs_z]
            omega
          · rw [bs_z, bs_z, z]
            all_goals simp
        · exact ⟨q, by
            have : q ≤ s + 1 := by rw [← q1]; exact Nat.and_le_right
            omega, sub_and.mp q1, q2, q3⟩
    obtain ⟨J', t1, t2⟩ := c_give_l hg s (px_uJ J 56 (vp_updL (J 56) (s + 1) v')) none (some (.long v')) none none none none hT (by omega) (fun r hr => by
      show isV _ _ _ _ _ _ (vp_updL (J 56) (s + 1) v' r).toInt
      rw [pk_uLn (by omega)]
      exact h1 r (by omega)) (fun r hr hr2 => by
      show isV _ _ _ _ _ _ (vp_updL (J 56) (s + 1) v' r).toInt
      by_cases hrs : r = s + 1
      · rw [hrs, pk_uLs]
        exact hV
      · rw [pk_uLn hrs]
        exact h2 r (by omega) hr2)
    refine ⟨J', ?_, t2⟩
    rw [px_uJ_2] at t1
    rw [← t1, eX3_giveToGang_2]
    simp (disch := omega) only [px_bd_s, px_psh_s, px_psh_n, px_vb_s, px_ib_s, px_wb_s, px_bo_s, px_bo_n, Bool.cond_decide, cond_true, cond_false, ite_not, Bool.and_true, if_true, if_false, not_true_eq_false, not_false_eq_true, i10, eq_self, decide_true, decide_false, Bool.or_true, Bool.true_or, Bool.or_false, Bool.false_or, zc0, if_neg, px_inbT, nI_clamp, r1, eX3_giveToGang_88, pk_m1]
theorem c_give {J : Nat → Nat → Int64} {n ng g : Nat} {mn wo cap : Nat → Nat} (hg : g < ng) (hT : tab M (J 55) n ng mn wo cap) (h1 : ∀ r, r < 2 ^ n → isV (fun t => (wo t : Int)) (fun t => (mn t : Int)) (fun t => (cap t : Int)) ng (g + 1) r (J 56 r).toInt) : ∃ J', px_ex px_tab (d + 1) 36 [Value.ref (51), Value.int (nI g), Value.int (nI (2 ^ n - 1))] (hp (M) (J) (R) (c) (e) nL xs (D)) = some (none, (hp (M) (px_uJ J 56 J') (R) (c) (e) nL xs (D))) ∧ ∀ r, r < 2 ^ n → isV (fun t => (wo t : Int)) (fun t => (mn t : Int)) (fun t => (cap t : Int)) ng g r (J' r).toInt := by
  have hp := Nat.two_pow_pos n
  obtain ⟨J', t1, t2⟩ := c_give_l d M R c e nL xs D hg (2 ^ n - 1) J (some (.int (nI (2 ^ n - 1)))) none none none none none hT (by omega) (fun r hr => h1 r (by omega)) (fun r hr hr2 => by omega)
  refine ⟨J', ?_, t2⟩
  rw [xX3_giveToGang, eX3_giveToGang_0]
  exact t1
theorem c_init_l {n ng : Nat} {mn wo cap : Nat → Nat} : ∀ (g k : Nat) (J : Nat → Nat → Int64), tab M (J 55) n ng mn wo cap → k + g = 2 ^ n → (∀ r, r < k → (J 56 r).toInt = -4 * bs pl5 r 9) → ∃ J', px_run (px_mk (kX3_planIfNew (px_ex px_tab d))) 19 ([some (.ref 51), some (.int (nI (2 ^ n - 1))), some (.int (nI k))], [], (hp M J R c e nL xs D)) = px_run (px_mk (kX3_planIfNew (px_ex px_tab d))) 46 ([some (.ref 51), some (.int (nI (2 ^ n - 1))), some (.int (nI (2 ^ n)))], [], hp M (px_uJ J 56 J') R c e nL xs D) ∧ ∀ r, r < 2 ^ n → (J' r).toInt = -4 * bs pl5 r 9
  | 0, k, J, hT, hk, h1 => by
    have h2 : 2 ^ n ≤ 2 ^ 9 := Nat.pow_le_pow_right (by decide) hT.1
    have h3 := Nat.two_pow_pos n
    refine ⟨J 56, ?_, fun r hr => h1 r (by omega)⟩
    rw [eX3_planIfNew_19, px_uJ_id, show k = 2 ^ n from by omega]
    simp (disch := omega) only [px_bd_s, px_psh_s, px_psh_n, px_vb_s, px_ib_s, px_wb_s, px_bo_s, px_bo_n, Bool.cond_decide, cond_true, cond_false, ite_not, Bool.and_true, if_true, if_false, not_true_eq_false, not_false_eq_true, i10, eq_self, decide_true, decide_false, Bool.or_true, Bool.true_or, Bool.or_false, Bool.false_or, nI_ltI, if_pos]
  | g + 1, k, J, hT, hk, h1 => by
    have h2 : 2 ^ n ≤ 2 ^ 9 := Nat.pow_le_pow_right (by decide) hT.1
    have h3 := Nat.two_pow_pos n
    obtain ⟨_, ⟨y, ey, ey2⟩, _⟩ := hT.2.2.2.2 k (by omega)
    have hb := (tab_b hT (show k < 2 ^ n by omega)).2.1
    have e1 : (((-4 : Int32) * nI y).toInt64).toInt = -4 * bs pl5 k 9 := by
      rw [Int32.toInt_toInt64, Int32.toInt_mul, nI_toInt (by omega), show (-4 : Int32).toInt = -4 from rfl, ← ey2]
      exact Int.bmod_eq_of_le (by omega) (by omega)
    obtain ⟨J', t1, t2⟩ := c_init_l g (k + 1) (px_uJ J 56 (vp_updL (J 56) k (((-4 : Int32) * nI y).toInt64))) hT (by omega) (fun r hr => by
      show (vp_updL (J 56) k (((-4 : Int32) * nI y).toInt64) r).toInt = _
      by_cases hrk : r = k
      · rw [hrk, pk_uLs, e1]
      · rw [pk_uLn hrk]
        exact h1 r (by omega))
    refine ⟨J', ?_, t2⟩
    rw [px_uJ_2] at t1
    rw [← t1, eX3_planIfNew_19]
    simp (disch := omega) only [px_bd_s, px_psh_s, px_psh_n, px_vb_s, px_ib_s, px_wb_s, px_bo_s, px_bo_n, Bool.cond_decide, cond_true, cond_false, ite_not, Bool.and_true, if_true, if_false, not_true_eq_false, not_false_eq_true, i10, eq_self, decide_true, decide_false, Bool.or_true, Bool.true_or, Bool.or_false, Bool.false_or, nI_ltI, if_neg, px_inbT, nI_clamp, ey, nI_1]
theorem c_gangs_l {n ng : Nat} {mn wo cap : Nat → Nat} : ∀ (k : Nat) (J : Nat → Nat → Int64), tab M (J 55) n ng mn wo cap → k ≤ ng → (∀ r, r < 2 ^ n → isV (fun t => (wo t : Int)) (fun t => (mn t : Int)) (fun t => (cap t : Int)) ng k r (J 56 r).toInt) → ∃ J' o, px_run (px_mk (kX3_planIfNew (px_ex px_tab (d + 1)))) 53 ([some (.ref 51), some (.int (nI (2 ^ n - 1))), some (.int (nI k - 1))], [], (hp M J R c e nL xs D)) = px_run (px_mk (kX3_planIfNew (px_ex px_tab (d + 1)))) 69 ([some (.ref 51), some (.int (nI (2 ^ n - 1))), o], [], hp M (px_uJ J 56 J') R c e nL xs D) ∧ ∀ r, r < 2 ^ n → isV (fun t => (wo t : Int)) (fun t => (mn t : Int)) (fun t => (cap t : Int)) ng 0 r (J' r).toInt
  | 0, J, hT, hk, h1 => by
    refine ⟨J 56, some (.int (-1)), ?_, h1⟩
    rw [eX3_planIfNew_53, px_uJ_id, nI_0, show (0 : Int32) - 1 = -1 from rfl]
    simp only [px_bd_s, px_psh_s, px_psh_n, px_vb_s, px_ib_s, px_wb_s, px_bo_s, px_bo_n, Bool.cond_decide, cond_true, cond_false, ite_not, Bool.and_true, if_true, if_false, not_true_eq_false, not_false_eq_true, i10, eq_self, decide_true, decide_false, Bool.or_true, Bool.true_or, Bool.or_false, Bool.false_or, show (-1 : Int32) < 0 from by decide]
  | k + 1, J, hT, hk, h1 => by
    have hng := hT.2.1
    obtain ⟨J1, t1, t2⟩ := c_give d M R c e nL xs D (g := k) (by omega) hT h1
    obtain ⟨J', o, t3, t4⟩ := c_gangs_l k (px_uJ J 56 J1) hT (by omega) t2
    refine ⟨J', o, ?_, t4⟩
    rw [px_uJ_2] at t3
    rw [← t3, eX3_planIfNew_53, nI_pred]
    simp (disch := omega) only [px_bd_s, px_psh_s, px_psh_n, px_vb_s, px_ib_s, px_wb_s, px_bo_s, px_bo_n, Bool.cond_decide, cond_true, cond_false, ite_not, Bool.and_true, if_true, if_false, not_true_eq_false, not_false_eq_true, i10, eq_self, decide_true, decide_false, Bool.or_true, Bool.true_or, Bool.or_false, Bool.false_or, if_neg (nI_pos (show k < 2 ^ 31 by omega)), t1, eX3_planIfNew_53_6]
    rw [Int32.sub_eq_add_neg]
end S48
