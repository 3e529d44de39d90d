/-! PART 52: TASK, PLAN, PLANNED -/
section S52
variable (d : Nat) (M : Nat → Nat → Int32) (J : Nat → Nat → Int64) (R : Nat → Nat → Option Nat) (c e nL : Nat) (xs : Nat → Int32) (D : px_H)
theorem t_task (hI : IPl M J) (v u : Int32) : ∃ w M1 J1 M2, px_ex px_tab (d + 3) 151 [Value.ref (13), Value.int (v), Value.int (u)] (hp (M) (J) (R) (c) (e) nL xs (D)) = some (some (Value.int (w)), (hp (M1) (J1) (R) (c) (e) nL xs (D))) ∧ px_ex px_tab (d + 3) 238 [Value.ref (67), Value.int (v), Value.int (u)] (hp (M1) (J1) (R) (c) (e) nL xs (D)) = some (some (Value.int (w)), (hp (M2) (J1) (R) (c) (e) nL xs (D))) ∧ IPl M2 J1 ∧ frm [51, 53, 54, 99, 100] [42, 47] M M2 := by
  obtain ⟨n, ng, mn, wo, cap, hT, h510, h511, hS, h101, hpl⟩ := hI
  have hn := hT.1
  by_cases hv : 1 ≤ v ∧ v ≤ 200
  · by_cases hu : 0 ≤ u ∧ u ≤ 999
    · by_cases h9 : n = 9
      · subst h9
        refine ⟨-4, M, J, M, ?_, ?_, ⟨9, ng, mn, wo, cap, hT, h510, h511, hS, h101, hpl⟩, frm.rf _ _ _⟩
        · rw [xX11_task]
          simp only [px_bd_s, px_psh_s, px_psh_n, px_vb_s, px_ib_s, px_wb_s, px_bo_s, px_bo_n, Bool.cond_decide, cond_true, cond_false, ite_not, Bool.and_true, if_true, if_false, not_true_eq_false, not_false_eq_true, i10, eq_self, decide_true, decide_false, Bool.or_true, Bool.true_or, Bool.or_false, Bool.false_or, eX11_task_0, eX11_task_0_5, xX3_addTask, eX3_addTask_0, eX3_addTask_26, Int32.not_lt.mpr hv.1, Int32.not_lt.mpr hv.2, Int32.not_lt.mpr hu.1, hu.2, h510, show ¬ nI 9 < 9 from by decide]
        · rw [xX12_task]
          simp only [px_bd_s, px_psh_s, px_psh_n, px_vb_s, px_ib_s, px_wb_s, px_bo_s, px_bo_n, Bool.cond_decide, cond_true, cond_false, ite_not, Bool.and_true, if_true, if_false, not_true_eq_false, not_false_eq_true, i10, eq_self, decide_true, decide_false, Bool.or_true, Bool.true_or, Bool.or_false, Bool.false_or, eX12_task_0, eX12_task_0_4, eX12_task_0_9, eX12_task_25, c_in, px_in_1 hv, px_in_1 hu, hS.1, show nI 9 = 9 from rfl]
      · obtain ⟨vv, hvv, rfl⟩ := nI_of2 (x := v) (M := 200) (n := 200) (by decide) (fun q => Int32.not_lt.mpr hv.1 (Int32.lt_of_lt_of_le q (by decide))) hv.2
        obtain ⟨uu, huu, rfl⟩ := nI_of2 (x := u) (M := 999) (n := 999) (by decide) (Int32.not_lt.mpr hu.1) hu.2
        have hpl5 := pv_5 n (by omega)
        obtain ⟨r53, r54, j55, q1, q2, q3⟩ := c_sets_l (d + 1) R c e nL xs D (n := n) (by omega) (nI vv) (nI uu) (nI (390625 / 5 ^ n)) (2 ^ n) 0 M J (by omega)
        have hpos := Nat.two_pow_pos n
        have h512 : 2 ^ n ≤ 2 ^ 8 := Nat.pow_le_pow_right (by decide) (by omega)
        refine ⟨nI n, px_uR (px_uR (px_uR M 53 r53) 54 r54) 51 (upd (upd (M 51) 0 (nI (n + 1))) 7 0), px_uJ J 55 j55, px_uR (px_uR (px_uR (px_uR (px_uR (px_uR M 53 r53) 54 r54) 51 (upd (upd (M 51) 0 (nI (n + 1))) 7 0)) 99 (upd (M 99) n (nI vv))) 100 (upd (M 100) n (nI uu))) 67 (upd (upd (M 67) 42 (nI (n + 1))) 47 0), ?_, ?_, ?_, ?_⟩
        · have cp := c_place_l (d + 1) J R c e nL xs D (n := n) (by omega) M h510 (nI vv) (nI uu) n 0 (by omega)
          rw [nI_0, Nat.pow_zero, Nat.div_one, show nI 390625 = 390625 from rfl] at cp
          rw [nI_0] at q1
          have e510 : (px_uR (px_uR M 53 r53) 54 r54) 51 0 = nI n := h510
          rw [xX11_task]
          simp (disch := omega) only [px_bd_s, px_psh_s, px_psh_n, px_vb_s, px_ib_s, px_wb_s, px_bo_s, px_bo_n, Bool.cond_decide, cond_true, cond_false, ite_not, Bool.and_true, if_true, if_false, not_true_eq_false, not_false_eq_true, i10, eq_self, decide_true, decide_false, Bool.or_true, Bool.true_or, Bool.or_false, Bool.false_or, eX11_task_0, eX11_task_0_5, xX3_addTask, eX3_addTask_0, eX3_addTask_26, eX3_addTask_38, Int32.not_lt.mpr hv.1, Int32.not_lt.mpr hv.2, Int32.not_lt.mpr hu.1, hu.2, h510, zd9, if_pos, cp, eX3_addTask_63, shl_n, q1, eX3_addTask_149, e510, nI_1, nI_pred]
          rfl
        · have e1 : (px_uR (px_uR (px_uR M 53 r53) 54 r54) 51 (upd (upd (M 51) 0 (nI (n + 1))) 7 0)) 67 42 = nI n := hS.1
          rw [xX12_task]
          simp (disch := omega) only [px_bd_s, px_psh_s, px_psh_n, px_vb_s, px_ib_s, px_wb_s, px_bo_s, px_bo_n, Bool.cond_decide, cond_true, cond_false, ite_not, Bool.and_true, if_true, if_false, not_true_eq_false, not_false_eq_true, i10, eq_self, decide_true, decide_false, Bool.or_true, Bool.true_or, Bool.or_false, Bool.false_or, eX12_task_0, eX12_task_0_4, eX12_task_0_9, eX12_task_25, eX12_task_37, c_in, px_in_1 hv, px_in_1 hu, e1, ze9, if_neg, px_inbT, nI_clamp, nI_1, nI_pred]
          rfl
        · have hmn : ∀ t, t < n → (fun t => if t = n then vv else mn t) t = mn t := fun t ht => by
            show (if t = n then vv else mn t) = mn t
            rw [if_neg (by omega)]
          have hwo : ∀ t, t < n → (fun t => if t = n then uu else wo t) t = wo t := fun t ht => by
            show (if t = n then uu else wo t) = wo t
            rw [if_neg (by omega)]
          refine ⟨n + 1, ng, fun t => if t = n then vv else mn t, fun t => if t = n then uu else wo t, cap, ⟨by omega, hT.2.1, fun t ht => ?_, hT.2.2.2.1, fun s hs => ?_⟩, rfl, h511, ⟨rfl, hS.2.1, fun t ht => ?_⟩, h101, Or.inl ⟨rfl, rfl⟩⟩
          · dsimp only
            by_cases h : t = n
            · rw [if_pos h, if_pos h]; exact ⟨hvv, huu⟩
            · rw [if_neg h, if_neg h]; exact hT.2.2.1 t (by omega)
          · show (∃ x : Nat, r53 s = nI x ∧ (x : Int) = bs (fun t => ((if t = n then vv else mn t : Nat) : Int)) s 9) ∧ (∃ x : Nat, r54 s = nI x ∧ (x : Int) = bs pl5 s 9) ∧ (j55 s).toInt = 1953125 * bs (fun t => ((if t = n then uu else wo t : Nat) : Int)) s 9
            rcases Nat.lt_or_ge s (2 ^ n) with hlt | hge
            · obtain ⟨a1, a2, a3⟩ := q2 s (by omega)
              rw [a1, a2, a3, bs_ext (f := fun t => ((if t = n then vv else mn t : Nat) : Int)) (f' := (fun t => (mn t : Int))) hlt (fun t ht => by rw [if_neg (by omega)]), bs_ext (f := fun t => ((if t = n then uu else wo t : Nat) : Int)) (f' := (fun t => (wo t : Int))) hlt (fun t ht => by rw [if_neg (by omega)])]
              exact hT.2.2.2.2 s hlt
            · rw [Nat.pow_succ] at hs
              obtain ⟨s0, rfl⟩ : ∃ s0, s = 2 ^ n + s0 := ⟨s - 2 ^ n, by omega⟩
              have hs0 : s0 < 2 ^ n := by omega
              obtain ⟨a1, a2, a3⟩ := q3 s0 (Nat.zero_le _) hs0
              obtain ⟨⟨x, x1, x2⟩, ⟨y, y1, y2⟩, z1⟩ := hT.2.2.2.2 s0 hs0
              obtain ⟨_, _, ⟨b5, b6⟩, _⟩ := tab_b hT hs0
              rw [a1, a2, a3, bs_add (by omega) hs0, bs_add (by omega) hs0, bs_add (by omega) hs0, bs_ext (f := fun t => ((if t = n then vv else mn t : Nat) : Int)) (f' := (fun t => (mn t : Int))) hs0 (fun t ht => by rw [if_neg (by omega)]), bs_ext (f := fun t => ((if t = n then uu else wo t : Nat) : Int)) (f' := (fun t => (wo t : Int))) hs0 (fun t ht => by rw [if_neg (by omega)]), if_pos rfl, if_pos rfl]
              refine ⟨⟨x + vv, by rw [x1, nI_add], by omega⟩, ⟨y + 390625 / 5 ^ n, by rw [y1, nI_add], ?_⟩, ?_⟩
              · rw [Int.natCast_add, y2, hpl5]
                rfl
              · have e1 : (nI uu).toInt64 * 1953125 = lN (uu * 1953125) := by
                  rw [nI_l (by omega), show (1953125 : Int64) = lN 1953125 from rfl, lN_mul]
                have e2 : (lN (uu * 1953125)).toInt = ((uu * 1953125 : Nat) : Int) := pk_lT (by omega)
                rw [e1, j_add (by rw [z1]; omega) (by rw [z1]; omega) (by rw [e2]; omega) (by rw [e2]; omega), z1, e2]
                omega
          · show upd (M 99) n (nI vv) t = nI (if t = n then vv else mn t) ∧ upd (M 100) n (nI uu) t = nI (if t = n then uu else wo t)
            by_cases h : t = n
            · rw [h, pk_us, pk_us, if_pos rfl, if_pos rfl]; exact ⟨rfl, rfl⟩
            · rw [pk_un h, pk_un h, if_neg h, if_neg h]; exact hS.2.2 t (by omega)
        · have f1 := (((((frm.rf [51, 53, 54, 99, 100] [42, 47] M).u 53 r53 (by decide) (by decide)).u 54 r54 (by decide) (by decide)).u 51 (upd (upd (M 51) 0 (nI (n + 1))) 7 0) (by decide) (by decide)).u 99 (upd (M 99) n (nI vv)) (by decide) (by decide)).u 100 (upd (M 100) n (nI uu)) (by decide) (by decide)
          have f3 := (f1.k 42 (nI (n + 1)) (by decide)).k 47 0 (by decide)
          rw [px_uR_2, px_uR_s] at f3
          exact f3
    · refine ⟨-2, M, J, M, ?_, ?_, ⟨n, ng, mn, wo, cap, hT, h510, h511, hS, h101, hpl⟩, frm.rf _ _ _⟩
      · rw [xX11_task]
        simp only [px_bd_s, px_psh_s, px_psh_n, px_vb_s, px_ib_s, px_wb_s, px_bo_s, px_bo_n, Bool.cond_decide, cond_true, cond_false, ite_not, Bool.and_true, if_true, if_false, not_true_eq_false, not_false_eq_true, i10, eq_self, decide_true, decide_false, Bool.or_true, Bool.true_or, Bool.or_false, Bool.false_or, eX11_task_0, eX11_task_0_5, xX3_addTask, eX3_addTask_0, eX3_addTask_23]
        by_cases h1 : u < 0
        · simp only [if_neg (Int32.not_lt.mpr hv.1), if_neg (Int32.not_lt.mpr hv.2), if_pos h1, px_bd_s, px_psh_s, px_psh_n, px_vb_s, px_ib_s, px_wb_s, px_bo_s, px_bo_n, Bool.cond_decide, cond_true, cond_false, ite_not, Bool.and_true, if_true, if_false, not_true_eq_false, not_false_eq_true, i10, eq_self, decide_true, decide_false, Bool.or_true, Bool.true_or, Bool.or_false, Bool.false_or, eX11_task_0, eX11_task_0_5]
        · have h2 : ¬ u ≤ 999 := fun q => hu ⟨Int32.not_lt.mp h1, q⟩
          simp only [if_neg (Int32.not_lt.mpr hv.1), if_neg (Int32.not_lt.mpr hv.2), if_neg h1, if_neg h2, px_bd_s, px_psh_s, px_psh_n, px_vb_s, px_ib_s, px_wb_s, px_bo_s, px_bo_n, Bool.cond_decide, cond_true, cond_false, ite_not, Bool.and_true, if_true, if_false, not_true_eq_false, not_false_eq_true, i10, eq_self, decide_true, decide_false, Bool.or_true, Bool.true_or, Bool.or_false, Bool.false_or, eX11_task_0, eX11_task_0_5]
      · rw [xX12_task]
        simp only [px_bd_s, px_psh_s, px_psh_n, px_vb_s, px_ib_s, px_wb_s, px_bo_s, px_bo_n, Bool.cond_decide, cond_true, cond_false, ite_not, Bool.and_true, if_true, if_false, not_true_eq_false, not_false_eq_true, i10, eq_self, decide_true, decide_false, Bool.or_true, Bool.true_or, Bool.or_false, Bool.false_or, eX12_task_0, eX12_task_0_4, eX12_task_22, eX12_task_0_9, c_in, px_in_1 hv, px_in_00 hu]
  · refine ⟨-2, M, J, M, ?_, ?_, ⟨n, ng, mn, wo, cap, hT, h510, h511, hS, h101, hpl⟩, frm.rf _ _ _⟩
    · rw [xX11_task]
      simp only [px_bd_s, px_psh_s, px_psh_n, px_vb_s, px_ib_s, px_wb_s, px_bo_s, px_bo_n, Bool.cond_decide, cond_true, cond_false, ite_not, Bool.and_true, if_true, if_false, not_true_eq_false, not_false_eq_true, i10, eq_self, decide_true, decide_false, Bool.or_true, Bool.true_or, Bool.or_false, Bool.false_or, eX11_task_0, eX11_task_0_5, xX3_addTask, eX3_addTask_0, eX3_addTask_23]
      by_cases h1 : v < 1
      · simp only [if_pos h1, px_bd_s, px_psh_s, px_psh_n, px_vb_s, px_ib_s, px_wb_s, px_bo_s, px_bo_n, Bool.cond_decide, cond_true, cond_false, ite_not, Bool.and_true, if_true, if_false, not_true_eq_false, not_false_eq_true, i10, eq_self, decide_true, decide_false, Bool.or_true, Bool.true_or, Bool.or_false, Bool.false_or, eX11_task_0, eX11_task_0_5]
      · have h2 : 200 < v := Decidable.not_not.mp fun q => hv ⟨Int32.not_lt.mp h1, Int32.not_lt.mp q⟩
        simp only [if_neg h1, if_pos h2, px_bd_s, px_psh_s, px_psh_n, px_vb_s, px_ib_s, px_wb_s, px_bo_s, px_bo_n, Bool.cond_decide, cond_true, cond_false, ite_not, Bool.and_true, if_true, if_false, not_true_eq_false, not_false_eq_true, i10, eq_self, decide_true, decide_false, Bool.or_true, Bool.true_or, Bool.or_false, Bool.false_or, eX11_task_0, eX11_task_0_5]
    · rw [xX12_task]
      simp only [px_bd_s, px_psh_s, px_psh_n, px_vb_s, px_ib_s, px_wb_s, px_bo_s, px_bo_n, Bool.cond_decide, cond_true, cond_false, ite_not, Bool.and_true, if_true, if_false, not_true_eq_false, not_false_eq_true, i10, eq_self, decide_true, decide_false, Bool.or_true, Bool.true_or, Bool.or_false, Bool.false_or, eX12_task_0, eX12_task_0_4, eX12_task_22, c_in, px_in_00 hv]
/-- the class makes its plan -/
theorem c_planNew {n ng : Nat} {mn wo cap : Nat → Nat} (hT : tab M (J 55) n ng mn wo cap) (h510 : M 51 0 = nI n) (h511 : M 51 1 = nI ng) (h7 : M 51 7 = 0) : ∃ J' r b, px_ex px_tab (d + 3) 35 [Value.ref (51)] (hp (M) (J) (R) (c) (e) nL xs (D)) = some (none, (hp (px_uR (px_uR (px_uR M 51 (upd (M 51) 8 (nI (wsm wo b n)))) 57 r) 51 (upd (upd (M 51) 8 (nI (wsm wo b n))) 7 1)) (px_uJ J 56 J') (R) (c) (e) nL xs (D))) ∧ (∀ i, i < n → r i = dgI (b i)) ∧ (∀ i, i < n → b i ≤ 4) ∧ isV (fun t => (wo t : Int)) (fun t => (mn t : Int)) (fun t => (cap t : Int)) ng 0 (2 ^ n - 1) (mer (fun t => (wo t : Int)) b (2 ^ n - 1)) := by
  have hn := hT.1
  have hng := hT.2.1
  have hpos := Nat.two_pow_pos n
  have h512 : 2 ^ n ≤ 2 ^ 9 := Nat.pow_le_pow_right (by decide) hn
  obtain ⟨J1, a1, a2⟩ := c_init_l (d + 2) M R c e nL xs D (2 ^ n) 0 J hT (by omega) (fun r hr => by omega)
  obtain ⟨J2, o, b1, b2⟩ := c_gangs_l (d + 1) M R c e nL xs D ng (px_uJ J 56 J1) hT (Nat.le_refl _) (fun r hr => by
    show isV _ _ _ _ _ _ (J1 r).toInt
    rw [a2 r hr]
    exact isV_0 _ _ _ _ _ hng)
  rw [px_uJ_2] at b1
  have hV := b2 (2 ^ n - 1) (by omega)
  obtain ⟨_, b, hf, hm⟩ := hV
  have hb4 : ∀ i, i < n → b i ≤ 4 := fun i hi => by
    rcases ((fea_all hn).mp hf).1 i hi with q | q <;> omega
  obtain ⟨r, c1, c2⟩ := c_keep (d + 1) (px_uJ J 56 J2) R c e nL xs D (m := J2 (2 ^ n - 1)) M hn h510 (fun t ht => (hT.2.2.1 t ht).2) hb4 hm.symm
  refine ⟨J2, r, b, ?_, c2, hb4, by rw [hm]; exact b2 (2 ^ n - 1) (by omega)⟩
  rw [nI_0] at a1
  rw [xX3_planIfNew, eX3_planIfNew_0, h7]
  have e1 : nI (2 ^ n) - 1 = nI (2 ^ n - 1) := zm1 (by omega)
  simp (disch := omega) only [px_bd_s, px_psh_s, px_psh_n, px_vb_s, px_ib_s, px_wb_s, px_bo_s, px_bo_n, Bool.cond_decide, cond_true, cond_false, ite_not, Bool.and_true, if_true, if_false, not_true_eq_false, not_false_eq_true, i10, eq_self, decide_true, decide_false, Bool.or_true, Bool.true_or, Bool.or_false, Bool.false_or, eX3_planIfNew_8, h510, shl_n, e1, a1, eX3_planIfNew_46, h511]
  rw [b1, eX3_planIfNew_69]
  have e2 : (px_uJ J 56 J2) 56 (2 ^ n - 1) = J2 (2 ^ n - 1) := rfl
  simp (disch := omega) only [px_bd_s, px_psh_s, px_psh_n, px_vb_s, px_ib_s, px_wb_s, px_bo_s, px_bo_n, Bool.cond_decide, cond_true, cond_false, ite_not, Bool.and_true, if_true, if_false, not_true_eq_false, not_false_eq_true, i10, eq_self, decide_true, decide_false, Bool.or_true, Bool.true_or, Bool.or_false, Bool.false_or, px_inbT, nI_clamp, e2, c1, eX3_planIfNew_69_6]
  rfl
theorem m_rest_l {n ng : Nat} {mn wo : Nat → Nat} (hn : n ≤ 9) (hS : Stt M n ng mn wo) : ∀ (g k a : Nat), k + g = n → px_run (px_mk (kX12_plans (px_ex px_tab d))) 22 ([some (Value.ref (67)), some (Value.int (nI a)), some (Value.int (nI k))], [], (hp (M) (J) (R) (c) (e) nL xs (D))) = px_run (px_mk (kX12_plans (px_ex px_tab d))) 45 ([some (Value.ref (67)), some (Value.int (nI (a + rsm wo g k))), some (Value.int (nI n))], [], (hp (M) (J) (R) (c) (e) nL xs (D)))
  | 0, k, a, hk => by
    rw [eX12_plans_22, hS.1, show k = n from by omega]
    simp (disch := omega) only [px_bd_s, px_psh_s, px_psh_n, px_vb_s, px_ib_s, px_wb_s, px_bo_s, px_bo_n, Bool.cond_decide, cond_true, cond_false, ite_not, Bool.and_true, if_true, if_false, not_true_eq_false, not_false_eq_true, i10, eq_self, decide_true, decide_false, Bool.or_true, Bool.true_or, Bool.or_false, Bool.false_or, nI_leI, if_pos]
    rfl
  | g + 1, k, a, hk => by
    rw [eX12_plans_22, hS.1]
    simp (disch := omega) only [px_bd_s, px_psh_s, px_psh_n, px_vb_s, px_ib_s, px_wb_s, px_bo_s, px_bo_n, Bool.cond_decide, cond_true, cond_false, ite_not, Bool.and_true, if_true, if_false, not_true_eq_false, not_false_eq_true, i10, eq_self, decide_true, decide_false, Bool.or_true, Bool.true_or, Bool.or_false, Bool.false_or, nI_leI, if_neg, px_inbT, nI_clamp, (hS.2.2 k (by omega)).2, nI_add, nI_1]
    rw [m_rest_l hn hS g (k + 1) (a + wo k) (by omega), show a + rsm wo (g + 1) k = a + wo k + rsm wo g (k + 1) from by
      show a + (wo k + rsm wo g (k + 1)) = _
      omega]
end S52
section S52b
variable (d : Nat) (J : Nat → Nat → Int64) (R : Nat → Nat → Option Nat) (c e nL : Nat) (xs : Nat → Int32) (D : px_H)
theorem m_left_l {ng : Nat} {cap : Nat → Nat} (hng : ng ≤ 4) (v : Int32) : ∀ (g k : Nat) (M : Nat → Nat → Int32), M 67 45 = nI ng → (∀ h, h < ng → M 101 h = nI (cap h)) → k + g = ng → ∃ r, px_run (px_mk (kX12_plans (px_ex px_tab d))) 47 ([some (Value.ref (67)), some (Value.int (v)), some (Value.int (nI k))], [], (hp (M) (J) (R) (c) (e) nL xs (D))) = px_run (px_mk (kX12_plans (px_ex px_tab d))) 73 ([some (Value.ref (67)), some (Value.int (v)), some (Value.int (nI ng))], [], (hp (px_uR M 110 r) (J) (R) (c) (e) nL xs (D))) ∧ (∀ h, k ≤ h → h < ng → r h = nI (cap h)) ∧ ∀ h, h < k → r h = M 110 h
  | 0, k, M, h45, h101, hk => by
    refine ⟨M 110, ?_, fun h h1 h2 => by omega, fun _ _ => rfl⟩
    rw [eX12_plans_47, h45, px_uR_id, show k = ng from by omega]
    simp (disch := omega) only [px_bd_s, px_psh_s, px_psh_n, px_vb_s, px_ib_s, px_wb_s, px_bo_s, px_bo_n, Bool.cond_decide, cond_true, cond_false, ite_not, Bool.and_true, if_true, if_false, not_true_eq_false, not_false_eq_true, i10, eq_self, decide_true, decide_false, Bool.or_true, Bool.true_or, Bool.or_false, Bool.false_or, nI_leI, if_pos]
  | g + 1, k, M, h45, h101, hk => by
    obtain ⟨r, q1, q2, q3⟩ := m_left_l hng v g (k + 1) (px_uR M 110 (upd (M 110) k (nI (cap k)))) h45 h101 (by omega)
    refine ⟨r, ?_, fun h h1 h2 => ?_, fun h hh => ?_⟩
    · rw [px_uR_2] at q1
      rw [← q1, eX12_plans_47, h45]
      simp (disch := omega) only [px_bd_s, px_psh_s, px_psh_n, px_vb_s, px_ib_s, px_wb_s, px_bo_s, px_bo_n, Bool.cond_decide, cond_true, cond_false, ite_not, Bool.and_true, if_true, if_false, not_true_eq_false, not_false_eq_true, i10, eq_self, decide_true, decide_false, Bool.or_true, Bool.true_or, Bool.or_false, Bool.false_or, nI_leI, if_neg, px_inbT, nI_clamp, h101 k (by omega), nI_1]
    · rcases Nat.lt_or_ge k h with z | z
      · exact q2 h z h2
      · rw [show h = k from by omega, q3 k (by omega)]
        exact pk_us
    · rw [q3 h (by omega)]
      exact pk_un (by omega)
/-- the model makes its plan -/
theorem m_planNew {n ng : Nat} {mn wo cap : Nat → Nat} (M : Nat → Nat → Int32) (hn : n ≤ 9) (hng : ng ≤ 4) (hw : ∀ t, t < n → wo t ≤ 999) (hmn : ∀ t, t < n → mn t ≤ 200) (hcap : ∀ g, g < ng → cap g ≤ 400) (hS : Stt M n ng mn wo) (h101 : ∀ g, g < ng → M 101 g = nI (cap g)) (h47 : M 67 47 = 0) : ∃ M' bb, px_ex px_tab (d + n + 2) 241 [Value.ref (67)] (hp (M) (J) (R) (c) (e) nL xs (D)) = some (none, (hp (M') (J) (R) (c) (e) nL xs (D))) ∧ frm [108, 109, 110] [47, 65] M M' ∧ M' 67 47 = 1 ∧ M' 67 65 = nI (wsm wo bb n) ∧ (∀ i, i < n → M' 109 i = dgI (bb i)) ∧ (∀ i, i < n → bb i ≤ 4) ∧ isV (fun t => (wo t : Int)) (fun t => (mn t : Int)) (fun t => (cap t : Int)) ng 0 (2 ^ n - 1) (mer (fun t => (wo t : Int)) bb (2 ^ n - 1)) := by
  have f0 : frm [108, 109, 110] [47, 65] M (px_uR M 67 (upd (upd (M 67) 47 1) 65 (-1))) := by
    have := ((frm.rf [108, 109, 110] [47, 65] M).k 47 1 (by decide)).k 65 (-1) (by decide)
    rw [px_uR_2, px_uR_s] at this
    exact this
  have hS0 : Stt (px_uR M 67 (upd (upd (M 67) 47 1) 65 (-1))) n ng mn wo := hS
  have hr := m_rest_l (d + n + 1) (px_uR M 67 (upd (upd (M 67) 47 1) 65 (-1))) J R c e nL xs D hn hS0 n 0 0 (by omega)
  rw [nI_0, Nat.zero_add] at hr
  obtain ⟨r, q1, q2, q3⟩ := m_left_l (d + n + 1) J R c e nL xs D (cap := cap) hng (nI (rsm wo n 0)) ng 0 (px_uR M 67 (upd (upd (M 67) 47 1) 65 (-1))) hS.2.1 h101 (by omega)
  obtain ⟨M', v', ob', t1, t2, t3, t4, t5, t6, t7, t8⟩ := m_tries d J R c e nL xs D hn hng hw hmn hcap n 0 (fun _ => 4) (px_uR (px_uR M 67 (upd (upd (M 67) 47 1) 65 (-1))) 110 r) (-1953125) 0 (by omega) hS (fun i hi => by omega) (fun i hi => by omega) (fun g hg => ⟨cap g, q2 g (Nat.zero_le _) hg, rfl⟩) (Or.inl ⟨rfl, rfl, rfl⟩) (Or.inl rfl)
  have hfa : fea (fun t => (mn t : Int)) (fun t => (cap t : Int)) ng 0 (2 ^ n - 1) (fun _ => 4) := by
    refine (fea_all hn).mpr ⟨fun _ _ => Or.inr rfl, fun h hh => ?_⟩
    have : ∀ k, lsm mn (fun _ => 4) h k = 0 := by
      intro k
      induction k with
      | zero => rfl
      | succ k ih =>
        show lsm mn (fun _ => 4) h k + (if 4 = h then mn k else 0) = 0
        rw [ih, if_neg (by omega)]
    rw [this]
    exact Nat.zero_le _
  have hbig := t8 (fun _ => 4) (fun i hi => by omega) hfa
  have hm4 := mer_all (wo := wo) (b := fun _ => 4) hn (fun t _ => Nat.le_refl _)
  have ho4 := ord_lt (b := fun _ => 4) hn (fun t _ => Nat.le_refl _)
  rcases t5 with ⟨_, z, _⟩ | ⟨bb, z1, z2, z3, z4, z5⟩
  · rw [hm4, z] at hbig
    omega
  · have hmb := mer_all (wo := wo) hn (fun i hi => (z1 i hi).1)
    refine ⟨M', bb, ?_, ?_, ?_, z2, fun i hi => (z1 i hi).2, fun i hi => (z1 i hi).1, ?_⟩
    · have e0 : wsm wo (fun _ => 4) 0 = 0 := rfl
      rw [e0, nI_0] at t1
      rw [nI_0] at q1
      rw [xX12_plans, eX12_plans_0, h47]
      simp only [px_bd_s, px_psh_s, px_psh_n, px_vb_s, px_ib_s, px_wb_s, px_bo_s, px_bo_n, Bool.cond_decide, cond_true, cond_false, ite_not, Bool.and_true, if_true, if_false, not_true_eq_false, not_false_eq_true, i10, eq_self, decide_true, decide_false, Bool.or_true, Bool.true_or, Bool.or_false, Bool.false_or, eX12_plans_8, hr, eX12_plans_45, q1, eX12_plans_73, t1, eX12_plans_73_5]
    · have f2 : frm [108, 109, 110] [47, 65] M (px_uR (px_uR M 67 (upd (upd (M 67) 47 1) 65 (-1))) 110 r) := f0.u 110 _ (by decide) (by decide)
      exact f2.tr (t2.mono (fun a h => h) (fun a h => by
        have : a = 65 := by simpa using h
        rw [this]; decide))
    · rw [t2.2 47 (by decide)]
      rfl
    · rw [hmb, ← z3, ← z4]
      refine ⟨fun a ha => t8 a (fun i hi => by omega) ha, bb, z5, ?_⟩
      rw [hmb, ← z3, ← z4]
end S52b
