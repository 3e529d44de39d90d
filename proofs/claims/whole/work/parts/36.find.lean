/-! PART 36: FIND, CANCEL -/
set_option maxRecDepth 40000 in
theorem fX10_addFind_0 (X : px_X) (M : Nat → Nat → Int32) (J : Nat → Nat → Int64) (R : Nat → Nat → Option Nat) (c e nL : Nat) (xs : Nat → Int32) (D : px_H) (a b s m : Int32) : px_run (px_mk (kX10_addFind X)) 0 ([some (.ref 28), some (.int a), some (.int b), some (.int s), some (.int m)], [], (hp M J R c e nL xs D)) = cond (decide (a < 0)) (px_run (px_mk (kX10_addFind X)) 20 ([some (.ref 28), some (.int a), some (.int b), some (.int s), some (.int m)], [], (hp M J R c e nL xs D))) (cond (decide (6 ≤ a)) (px_run (px_mk (kX10_addFind X)) 20 ([some (.ref 28), some (.int a), some (.int b), some (.int s), some (.int m)], [], (hp M J R c e nL xs D))) (cond (decide (b < 0)) (px_run (px_mk (kX10_addFind X)) 20 ([some (.ref 28), some (.int a), some (.int b), some (.int s), some (.int m)], [], (hp M J R c e nL xs D))) (cond (decide (b ≤ 99)) (px_run (px_mk (kX10_addFind X)) 23 ([some (.ref 28), some (.int a), some (.int b), some (.int s), some (.int m)], [], (hp M J R c e nL xs D))) (px_run (px_mk (kX10_addFind X)) 20 ([some (.ref 28), some (.int a), some (.int b), some (.int s), some (.int m)], [], (hp M J R c e nL xs D)))))) := (px_run_eq _ _ _).trans rfl
set_option maxRecDepth 40000 in
theorem fX10_addFind_20 (X : px_X) (M : Nat → Nat → Int32) (J : Nat → Nat → Int64) (R : Nat → Nat → Option Nat) (c e nL : Nat) (xs : Nat → Int32) (D : px_H) (a b s m : Int32) : px_run (px_mk (kX10_addFind X)) 20 ([some (.ref 28), some (.int a), some (.int b), some (.int s), some (.int m)], [], (hp M J R c e nL xs D)) = some (some (.int (-2)), (hp M J R c e nL xs D)) := (px_run_eq _ _ _).trans rfl
set_option maxRecDepth 40000 in
theorem fX10_addFind_23 (X : px_X) (M : Nat → Nat → Int32) (J : Nat → Nat → Int64) (R : Nat → Nat → Option Nat) (c e nL : Nat) (xs : Nat → Int32) (D : px_H) (a b s m : Int32) : px_run (px_mk (kX10_addFind X)) 23 ([some (.ref 28), some (.int a), some (.int b), some (.int s), some (.int m)], [], (hp M J R c e nL xs D)) = cond (decide (s < 0)) (px_run (px_mk (kX10_addFind X)) 45 ([some (.ref 28), some (.int a), some (.int b), some (.int s), some (.int m)], [], (hp M J R c e nL xs D))) (cond (decide (3 < s)) (px_run (px_mk (kX10_addFind X)) 45 ([some (.ref 28), some (.int a), some (.int b), some (.int s), some (.int m)], [], (hp M J R c e nL xs D))) (cond (decide (m < 1)) (px_run (px_mk (kX10_addFind X)) 45 ([some (.ref 28), some (.int a), some (.int b), some (.int s), some (.int m)], [], (hp M J R c e nL xs D))) (cond (decide (m ≤ 9)) (px_run (px_mk (kX10_addFind X)) 48 ([some (.ref 28), some (.int a), some (.int b), some (.int s), some (.int m)], [], (hp M J R c e nL xs D))) (px_run (px_mk (kX10_addFind X)) 45 ([some (.ref 28), some (.int a), some (.int b), some (.int s), some (.int m)], [], (hp M J R c e nL xs D)))))) := (px_run_eq _ _ _).trans rfl
set_option maxRecDepth 40000 in
theorem fX10_addFind_45 (X : px_X) (M : Nat → Nat → Int32) (J : Nat → Nat → Int64) (R : Nat → Nat → Option Nat) (c e nL : Nat) (xs : Nat → Int32) (D : px_H) (a b s m : Int32) : px_run (px_mk (kX10_addFind X)) 45 ([some (.ref 28), some (.int a), some (.int b), some (.int s), some (.int m)], [], (hp M J R c e nL xs D)) = some (some (.int (-2)), (hp M J R c e nL xs D)) := (px_run_eq _ _ _).trans rfl
set_option maxRecDepth 40000 in
theorem fX10_addFind_48 (X : px_X) (M : Nat → Nat → Int32) (J : Nat → Nat → Int64) (R : Nat → Nat → Option Nat) (c e nL : Nat) (xs : Nat → Int32) (D : px_H) (a b s m : Int32) : px_run (px_mk (kX10_addFind X)) 48 ([some (.ref 28), some (.int a), some (.int b), some (.int s), some (.int m)], [], (hp M J R c e nL xs D)) = cond (decide (M 28 0 < 20)) (px_run (px_mk (kX10_addFind X)) 60 ([some (.ref 28), some (.int a), some (.int b), some (.int s), some (.int m)], [], (hp M J R c e nL xs D))) (some (some (.int (-4)), (hp M J R c e nL xs D))) := (px_run_eq _ _ _).trans rfl
section S36
variable (d : Nat) (M : Nat → Nat → Int32) (J : Nat → Nat → Int64) (R : Nat → Nat → Option Nat) (c e nL : Nat) (xs : Nat → Int32) (D : px_H)
theorem t_find (hI : IFd M R D) (a b s m : Int32) : ∃ w M1 R1 D1 M2, px_ex px_tab (d + 4) 129 [Value.ref (13), Value.int (a), Value.int (b), Value.int (s), Value.int (m)] (hp (M) (J) (R) (c) (e) nL xs (D)) = some (some (Value.int (w)), (hp (M1) (J) (R1) (c) (e) nL xs (D1))) ∧ px_ex px_tab (d + 4) 182 [Value.ref (67), Value.int (a), Value.int (b), Value.int (s), Value.int (m)] (hp (M1) (J) (R1) (c) (e) nL xs (D1)) = some (some (Value.int (w)), (hp (M2) (J) (R1) (c) (e) nL xs (D1))) ∧ IFd M2 R1 D1 ∧ frm [28, 77, 78, 79, 80, 83] [13] M M2 ∧ M2 28 1 = M 28 1 ∧ R1 36 = R 36 ∧ (∀ q V, dvAt D q V → dvAt D1 q V) ∧ grow D D1 := by
  obtain ⟨n, P, H, hF⟩ := hI
  have hn := hF.1
  by_cases hb : (0 ≤ a ∧ a ≤ 5) ∧ (0 ≤ b ∧ b ≤ 99) ∧ (0 ≤ s ∧ s ≤ 3) ∧ (1 ≤ m ∧ m ≤ 9)
  · obtain ⟨ha, hbb, hs, hm⟩ := hb
    have cc : ∀ r, px_run (px_mk (kX10_addFind (px_ex px_tab (d + 2)))) 48 ([some (.ref 28), some (.int a), some (.int b), some (.int s), some (.int m)], [], (hp M J R c e nL xs D)) = r → px_ex px_tab (d + 3) 110 [.ref 28, .int a, .int b, .int s, .int m] (hp M J R c e nL xs D) = r := by
      rintro r rfl
      rw [xX10_addFind]
      simp only [px_bd_s, px_psh_s, px_psh_n, px_vb_s, px_ib_s, px_wb_s, px_bo_s, px_bo_n, Bool.cond_decide, cond_true, cond_false, ite_not, Bool.and_true, if_true, if_false, not_true_eq_false, not_false_eq_true, i10, eq_self, decide_true, decide_false, Bool.or_true, Bool.true_or, Bool.or_false, Bool.false_or, fX10_addFind_0, fX10_addFind_23, Int32.not_lt.mpr ha.1, lesc (a := 5) (b := 6) rfl, ha.2, Int32.not_lt.mpr hbb.1, hbb.2, Int32.not_lt.mpr hs.1, Int32.not_lt.mpr hs.2, Int32.not_lt.mpr hm.1, hm.2]
    by_cases h20 : n = 20
    · subst h20
      refine ⟨-4, M, R, D, M, ?_, ?_, ⟨20, P, H, hF⟩, frm.rf _ _ _, rfl, rfl, fun _ _ h => h, grow.rf _⟩
      · rw [xX11_find]
        simp only [px_bd_s, px_psh_s, px_psh_n, px_vb_s, px_ib_s, px_wb_s, px_bo_s, px_bo_n, Bool.cond_decide, cond_true, cond_false, ite_not, Bool.and_true, if_true, if_false, not_true_eq_false, not_false_eq_true, i10, eq_self, decide_true, decide_false, Bool.or_true, Bool.true_or, Bool.or_false, Bool.false_or, eX11_find_0, eX11_find_0_7, cc _ rfl, fX10_addFind_48, hF.2.1, show ¬ nI 20 < 20 from by decide]
      · rw [xX12_find]
        simp only [px_bd_s, px_psh_s, px_psh_n, px_vb_s, px_ib_s, px_wb_s, px_bo_s, px_bo_n, Bool.cond_decide, cond_true, cond_false, ite_not, Bool.and_true, if_true, if_false, not_true_eq_false, not_false_eq_true, i10, eq_self, decide_true, decide_false, Bool.or_true, Bool.true_or, Bool.or_false, Bool.false_or, eX12_find_0, eX12_find_0_4, eX12_find_0_9, eX12_find_0_14, eX12_find_0_19, eX12_find_42, c_in, px_in_1 ha, px_in_1 hbb, px_in_1 hs, px_in_1 hm, hF.2.2.1, show nI 20 = 20 from rfl]
    · have c60 := c_addFind60 (d + 1) M J R c e nL xs D (show n < 20 by omega) hF.2.1 a b s m
      refine ⟨nI n, px_uR M 28 (upd (M 28) 0 (nI (n + 1))), px_uQ R 29 (va_up (R 29) n (some (111 + D.length))), D ++ [.inr (2, [.int a, .int b, .int s, .int m, .int 0, .ref (112 + D.length), .int 1, .int (-1), .int (-1)]), .inl (0, 8, .inl (fun _ => 0))], px_uR (px_uR (px_uR (px_uR (px_uR (px_uR (px_uR M 28 (upd (M 28) 0 (nI (n + 1)))) 77 (upd (M 77) n a)) 78 (upd (M 78) n b)) 79 (upd (M 79) n s)) 80 (upd (M 80) n m)) 83 (upd (M 83) n (-1))) 67 (upd (M 67) 13 (nI (n + 1))), ?_, ?_, ?_, ?_, rfl, rfl, fun q V h => dvAt_app h, ?_⟩
      · rw [xX11_find]
        simp (disch := omega) only [px_bd_s, px_psh_s, px_psh_n, px_vb_s, px_ib_s, px_wb_s, px_bo_s, px_bo_n, Bool.cond_decide, cond_true, cond_false, ite_not, Bool.and_true, if_true, if_false, not_true_eq_false, not_false_eq_true, i10, eq_self, decide_true, decide_false, Bool.or_true, Bool.true_or, Bool.or_false, Bool.false_or, eX11_find_0, eX11_find_0_7, cc _ rfl, fX10_addFind_48, hF.2.1, zd20, if_pos, c60]
      · have e1 : (px_uR M 28 (upd (M 28) 0 (nI (n + 1)))) 67 13 = nI n := hF.2.2.1
        rw [xX12_find]
        simp (disch := omega) only [px_bd_s, px_psh_s, px_psh_n, px_vb_s, px_ib_s, px_wb_s, px_bo_s, px_bo_n, Bool.cond_decide, cond_true, cond_false, ite_not, Bool.and_true, if_true, if_false, not_true_eq_false, not_false_eq_true, i10, eq_self, decide_true, decide_false, Bool.or_true, Bool.true_or, Bool.or_false, Bool.false_or, eX12_find_0, eX12_find_0_4, eX12_find_0_9, eX12_find_0_14, eX12_find_0_19, eX12_find_42, eX12_find_54, c_in, px_in_1 ha, px_in_1 hbb, px_in_1 hs, px_in_1 hm, e1, ze20, if_neg, px_inbT, nI_clamp, nI_1, nI_pred]
        rfl
      · refine ⟨n + 1, fun i => if i = n then D.length else P i, fun i => if i = n then (fun _ => 0) else H i, by omega, rfl, rfl, ?_, ?_, ?_⟩
        · have hlt : ∀ i, i < n → P i < D.length := fun i hi => (List.getElem?_eq_some_iff.mp (hF.2.2.2.2.1 i hi).2.1.1).1
          intro i j hi hj hij
          dsimp only at hij
          by_cases h1 : i = n
          · by_cases h2 : j = n
            · omega
            · rw [if_pos h1, if_neg h2] at hij
              have := hlt j (by omega)
              omega
          · by_cases h2 : j = n
            · rw [if_neg h1, if_pos h2] at hij
              have := hlt i (by omega)
              omega
            · rw [if_neg h1, if_neg h2] at hij
              exact hF.2.2.2.1 i j (by omega) (by omega) hij
        · intro i hi
          dsimp only
          by_cases h1 : i = n
          · subst h1
            rw [if_pos rfl, if_pos rfl]
            have h81 : M 81 i = 0 := hF.2.2.2.2.2 i (Nat.le_refl _) (by omega)
            refine ⟨va_up_self _ _ _, ⟨?_, ?_⟩, ?_, ?_⟩
            · rw [get_mid]
              unfold fdc
              rw [fdF_6, fdF_7, fdF_8]
              show some (Sum.inr (2, [Value.int a, Value.int b, Value.int s, Value.int m, Value.int 0, Value.ref (112 + D.length), Value.int 1, Value.int (-1), Value.int (-1)])) = some (Sum.inr (2, [Value.int (upd (M 77) i a i), Value.int (upd (M 78) i b i), Value.int (upd (M 79) i s i), Value.int (upd (M 80) i m i), Value.int (M 81 i), Value.ref (112 + D.length), Value.int (if upd (M 83) i (-1) i = -1 then 1 else 0), Value.int (if upd (M 83) i (-1) i < 0 then -1 else upd (M 83) i (-1) i), Value.int (if upd (M 83) i (-1) i < 0 then -1 else M 84 i)]))
              rw [pk_us, pk_us, pk_us, pk_us, pk_us, h81, if_pos rfl, if_pos (by decide), if_pos (by decide)]
            · rw [List.getElem?_append_right (by omega)]
              rw [show D.length + 1 - D.length = 1 from by omega]
              rfl
            · unfold fdR
              show (∃ x, x ≤ 5 ∧ upd (M 77) i a i = nI x) ∧ (∃ x, x ≤ 99 ∧ upd (M 78) i b i = nI x) ∧ (∃ x, x ≤ 3 ∧ upd (M 79) i s i = nI x) ∧ (∃ x, 1 ≤ x ∧ x ≤ 9 ∧ upd (M 80) i m i = nI x) ∧ (∃ x, x ≤ 8 ∧ M 81 i = nI x) ∧ (upd (M 83) i (-1) i = -1 ∨ upd (M 83) i (-1) i = -2 ∨ ∃ x, x < 6 ∧ upd (M 83) i (-1) i = nI x)
              rw [pk_us, pk_us, pk_us, pk_us, pk_us, h81]
              refine ⟨?_, ?_, ?_, ?_, ⟨0, by decide, rfl⟩, Or.inl rfl⟩
              · exact nI_of2 (by decide) (Int32.not_lt.mpr ha.1) ha.2
              · exact nI_of2 (by decide) (Int32.not_lt.mpr hbb.1) hbb.2
              · exact nI_of2 (by decide) (Int32.not_lt.mpr hs.1) hs.2
              · obtain ⟨r, hr, hr2⟩ := nI_of2 (x := m) (M := 9) (n := 9) (by decide) (fun q => Int32.not_lt.mpr hm.1 (Int32.lt_of_lt_of_le q (by decide))) hm.2
                refine ⟨r, ?_, hr, hr2⟩
                rw [hr2] at hm
                exact (za1 (by omega)).mp hm.1
            · intro k hk hk2
              have hk2 : nI k < M 81 i := hk2
              rw [h81] at hk2
              exact absurd hk2 (nI_pos (by omega))
          · rw [if_neg h1, if_neg h1]
            obtain ⟨a1, a2, a3, a4⟩ := hF.2.2.2.2.1 i (by omega)
            refine ⟨(va_up_ne _ _ h1).trans a1, ?_, ?_, a4⟩
            · show fdAt _ _ (fdF (upd (M 77) n a) (upd (M 78) n b) (upd (M 79) n s) (upd (M 80) n m) (M 81) (upd (M 83) n (-1)) (M 84) i) _
              rw [fdF_c (kd := M 77) (sq := M 78) (la := M 79) (sz := M 80) (hc := M 81) (tk := M 83) (cm := M 84) (pk_un h1) (pk_un h1) (pk_un h1) (pk_un h1) rfl (pk_un h1) rfl]
              exact fdAt_app a2
            · show fdR (upd (M 77) n a) (upd (M 78) n b) (upd (M 79) n s) (upd (M 80) n m) (M 81) (upd (M 83) n (-1)) i
              unfold fdR
              rw [pk_un h1, pk_un h1, pk_un h1, pk_un h1, pk_un h1]
              exact a3
        · exact fun i h1 h2 => hF.2.2.2.2.2 i (by omega) h2
      · exact (((((((frm.rf _ _ _).u 28 _ (by decide) (by decide)).u 77 _ (by decide) (by decide)).u 78 _ (by decide) (by decide)).u 79 _ (by decide) (by decide)).u 80 _ (by decide) (by decide)).u 83 _ (by decide) (by decide)).k 13 _ (by decide)
      · constructor
        · rw [List.length_append]
          exact Nat.le_refl _
        · rw [px_sz_app]
          exact Nat.add_le_add_left (Nat.le_of_ble_eq_true rfl) _
  · refine ⟨-2, M, R, D, M, ?_, ?_, ⟨n, P, H, hF⟩, frm.rf _ _ _, rfl, rfl, fun _ _ h => h, grow.rf _⟩
    · rw [xX11_find]
      simp only [px_bd_s, px_psh_s, px_psh_n, px_vb_s, px_ib_s, px_wb_s, px_bo_s, px_bo_n, Bool.cond_decide, cond_true, cond_false, ite_not, Bool.and_true, if_true, if_false, not_true_eq_false, not_false_eq_true, i10, eq_self, decide_true, decide_false, Bool.or_true, Bool.true_or, Bool.or_false, Bool.false_or, eX11_find_0, eX11_find_0_7, xX10_addFind, fX10_addFind_0, fX10_addFind_20, fX10_addFind_23, fX10_addFind_45, lesc (a := 5) (b := 6) rfl]
      by_cases a1 : a < 0
      · simp only [if_pos a1, px_bd_s, px_psh_s, px_psh_n, px_vb_s, px_ib_s, px_wb_s, px_bo_s, px_bo_n, Bool.cond_decide, cond_true, cond_false, ite_not, Bool.and_true, if_true, if_false, not_true_eq_false, not_false_eq_true, i10, eq_self, decide_true, decide_false, Bool.or_true, Bool.true_or, Bool.or_false, Bool.false_or, eX11_find_0, eX11_find_0_7]
      · by_cases a2 : a ≤ 5
        · by_cases a3 : b < 0
          · simp only [if_neg a1, if_pos a2, if_pos a3, px_bd_s, px_psh_s, px_psh_n, px_vb_s, px_ib_s, px_wb_s, px_bo_s, px_bo_n, Bool.cond_decide, cond_true, cond_false, ite_not, Bool.and_true, if_true, if_false, not_true_eq_false, not_false_eq_true, i10, eq_self, decide_true, decide_false, Bool.or_true, Bool.true_or, Bool.or_false, Bool.false_or, eX11_find_0, eX11_find_0_7]
          · by_cases a4 : b ≤ 99
            · by_cases a5 : s < 0
              · simp only [if_neg a1, if_pos a2, if_neg a3, if_pos a4, if_pos a5, px_bd_s, px_psh_s, px_psh_n, px_vb_s, px_ib_s, px_wb_s, px_bo_s, px_bo_n, Bool.cond_decide, cond_true, cond_false, ite_not, Bool.and_true, if_true, if_false, not_true_eq_false, not_false_eq_true, i10, eq_self, decide_true, decide_false, Bool.or_true, Bool.true_or, Bool.or_false, Bool.false_or, eX11_find_0, eX11_find_0_7]
              · by_cases a6 : 3 < s
                · simp only [if_neg a1, if_pos a2, if_neg a3, if_pos a4, if_neg a5, if_pos a6, px_bd_s, px_psh_s, px_psh_n, px_vb_s, px_ib_s, px_wb_s, px_bo_s, px_bo_n, Bool.cond_decide, cond_true, cond_false, ite_not, Bool.and_true, if_true, if_false, not_true_eq_false, not_false_eq_true, i10, eq_self, decide_true, decide_false, Bool.or_true, Bool.true_or, Bool.or_false, Bool.false_or, eX11_find_0, eX11_find_0_7]
                · by_cases a7 : m < 1
                  · simp only [if_neg a1, if_pos a2, if_neg a3, if_pos a4, if_neg a5, if_neg a6, if_pos a7, px_bd_s, px_psh_s, px_psh_n, px_vb_s, px_ib_s, px_wb_s, px_bo_s, px_bo_n, Bool.cond_decide, cond_true, cond_false, ite_not, Bool.and_true, if_true, if_false, not_true_eq_false, not_false_eq_true, i10, eq_self, decide_true, decide_false, Bool.or_true, Bool.true_or, Bool.or_false, Bool.false_or, eX11_find_0, eX11_find_0_7]
                  · have a8 : ¬ m ≤ 9 := fun q => hb ⟨⟨Int32.not_lt.mp a1, a2⟩, ⟨Int32.not_lt.mp a3, a4⟩, ⟨Int32.not_lt.mp a5, Int32.not_lt.mp a6⟩, Int32.not_lt.mp a7, q⟩
                    simp only [if_neg a1, if_pos a2, if_neg a3, if_pos a4, if_neg a5, if_neg a6, if_neg a7, if_neg a8, px_bd_s, px_psh_s, px_psh_n, px_vb_s, px_ib_s, px_wb_s, px_bo_s, px_bo_n, Bool.cond_decide, cond_true, cond_false, ite_not, Bool.and_true, if_true, if_false, not_true_eq_false, not_false_eq_true, i10, eq_self, decide_true, decide_false, Bool.or_true, Bool.true_or, Bool.or_false, Bool.false_or, eX11_find_0, eX11_find_0_7]
            · simp only [if_neg a1, if_pos a2, if_neg a3, if_neg a4, px_bd_s, px_psh_s, px_psh_n, px_vb_s, px_ib_s, px_wb_s, px_bo_s, px_bo_n, Bool.cond_decide, cond_true, cond_false, ite_not, Bool.and_true, if_true, if_false, not_true_eq_false, not_false_eq_true, i10, eq_self, decide_true, decide_false, Bool.or_true, Bool.true_or, Bool.or_false, Bool.false_or, eX11_find_0, eX11_find_0_7]
        · simp only [if_neg a1, if_neg a2, px_bd_s, px_psh_s, px_psh_n, px_vb_s, px_ib_s, px_wb_s, px_bo_s, px_bo_n, Bool.cond_decide, cond_true, cond_false, ite_not, Bool.and_true, if_true, if_false, not_true_eq_false, not_false_eq_true, i10, eq_self, decide_true, decide_false, Bool.or_true, Bool.true_or, Bool.or_false, Bool.false_or, eX11_find_0, eX11_find_0_7]
    · rw [xX12_find]
      simp only [px_bd_s, px_psh_s, px_psh_n, px_vb_s, px_ib_s, px_wb_s, px_bo_s, px_bo_n, Bool.cond_decide, cond_true, cond_false, ite_not, Bool.and_true, if_true, if_false, not_true_eq_false, not_false_eq_true, i10, eq_self, decide_true, decide_false, Bool.or_true, Bool.true_or, Bool.or_false, Bool.false_or, eX12_find_0, eX12_find_0_4, eX12_find_39, eX12_find_0_9, eX12_find_0_14, eX12_find_0_19, c_in]
      by_cases a1 : 0 ≤ a ∧ a ≤ 5
      · by_cases a2 : 0 ≤ b ∧ b ≤ 99
        · by_cases a3 : 0 ≤ s ∧ s ≤ 3
          · have a4 : ¬ (1 ≤ m ∧ m ≤ 9) := fun q => hb ⟨a1, a2, a3, q⟩
            simp only [px_in_1 a1, px_in_1 a2, px_in_1 a3, px_in_00 a4, px_bd_s, px_psh_s, px_psh_n, px_vb_s, px_ib_s, px_wb_s, px_bo_s, px_bo_n, Bool.cond_decide, cond_true, cond_false, ite_not, Bool.and_true, if_true, if_false, not_true_eq_false, not_false_eq_true, i10, eq_self, decide_true, decide_false, Bool.or_true, Bool.true_or, Bool.or_false, Bool.false_or]
          · simp only [px_in_1 a1, px_in_1 a2, px_in_00 a3, px_bd_s, px_psh_s, px_psh_n, px_vb_s, px_ib_s, px_wb_s, px_bo_s, px_bo_n, Bool.cond_decide, cond_true, cond_false, ite_not, Bool.and_true, if_true, if_false, not_true_eq_false, not_false_eq_true, i10, eq_self, decide_true, decide_false, Bool.or_true, Bool.true_or, Bool.or_false, Bool.false_or]
        · simp only [px_in_1 a1, px_in_00 a2, px_bd_s, px_psh_s, px_psh_n, px_vb_s, px_ib_s, px_wb_s, px_bo_s, px_bo_n, Bool.cond_decide, cond_true, cond_false, ite_not, Bool.and_true, if_true, if_false, not_true_eq_false, not_false_eq_true, i10, eq_self, decide_true, decide_false, Bool.or_true, Bool.true_or, Bool.or_false, Bool.false_or]
      · simp only [px_in_00 a1, px_bd_s, px_psh_s, px_psh_n, px_vb_s, px_ib_s, px_wb_s, px_bo_s, px_bo_n, Bool.cond_decide, cond_true, cond_false, ite_not, Bool.and_true, if_true, if_false, not_true_eq_false, not_false_eq_true, i10, eq_self, decide_true, decide_false, Bool.or_true, Bool.true_or, Bool.or_false, Bool.false_or]
theorem t_cancel (hI : IDv M R D) : ∃ w M1 R1 M2, px_ex px_tab (d + 3) 142 [Value.ref (13)] (hp (M) (J) (R) (c) (e) nL xs (D)) = some (some (Value.int (w)), (hp (M1) (J) (R1) (c) (e) nL xs (D))) ∧ px_ex px_tab (d + 3) 205 [Value.ref (67)] (hp (M1) (J) (R1) (c) (e) nL xs (D)) = some (some (Value.int (w)), (hp (M2) (J) (R1) (c) (e) nL xs (D))) ∧ IDv M2 R1 D ∧ frm [32] [30] M M2 ∧ M2 32 0 = M 32 0 ∧ M2 32 1 = M 32 1 ∧ R1 29 = R 29 := by
  obtain ⟨n, Q, hn, h32, h67, hrow⟩ := hI
  cases n with
  | zero =>
    refine ⟨-3, M, R, M, ?_, ?_, ⟨0, Q, hn, h32, h67, hrow⟩, frm.rf _ _ _, rfl, rfl, rfl⟩
    · rw [xX11_cancel]
      simp only [px_bd_s, px_psh_s, px_psh_n, px_vb_s, px_ib_s, px_wb_s, px_bo_s, px_bo_n, Bool.cond_decide, cond_true, cond_false, ite_not, Bool.and_true, if_true, if_false, not_true_eq_false, not_false_eq_true, i10, eq_self, decide_true, decide_false, Bool.or_true, Bool.true_or, Bool.or_false, Bool.false_or, eX11_cancel_0, eX11_cancel_0_3, xX1_dropLast, eX1_dropLast_0, eX1_dropLast_11, h32, show ¬ (1 : Int32) ≤ nI 0 from by decide]
    · rw [xX12_cancel]
      simp only [px_bd_s, px_psh_s, px_psh_n, px_vb_s, px_ib_s, px_wb_s, px_bo_s, px_bo_n, Bool.cond_decide, cond_true, cond_false, ite_not, Bool.and_true, if_true, if_false, not_true_eq_false, not_false_eq_true, i10, eq_self, decide_true, decide_false, Bool.or_true, Bool.true_or, Bool.or_false, Bool.false_or, eX12_cancel_0, eX12_cancel_10, h67, show nI 0 = 0 from rfl]
  | succ n =>
    refine ⟨nI n, px_uR M 32 (upd (M 32) 2 (nI n)), px_uQ R 36 (va_up (R 36) n none), px_uR (px_uR M 32 (upd (M 32) 2 (nI n))) 67 (upd (M 67) 30 (nI n)), ?_, ?_, ?_, ?_, rfl, rfl, rfl⟩
    · rw [xX11_cancel]
      simp (disch := omega) only [px_bd_s, px_psh_s, px_psh_n, px_vb_s, px_ib_s, px_wb_s, px_bo_s, px_bo_n, Bool.cond_decide, cond_true, cond_false, ite_not, Bool.and_true, if_true, if_false, not_true_eq_false, not_false_eq_true, i10, eq_self, decide_true, decide_false, Bool.or_true, Bool.true_or, Bool.or_false, Bool.false_or, eX11_cancel_0, eX11_cancel_0_3, xX1_dropLast, eX1_dropLast_0, eX1_dropLast_11, h32, za1, if_pos, nI_pred, px_inbT, nI_clamp]
    · have e1 : (px_uR M 32 (upd (M 32) 2 (nI n))) 67 30 = nI (n + 1) := h67
      rw [xX12_cancel]
      simp (disch := omega) only [px_bd_s, px_psh_s, px_psh_n, px_vb_s, px_ib_s, px_wb_s, px_bo_s, px_bo_n, Bool.cond_decide, cond_true, cond_false, ite_not, Bool.and_true, if_true, if_false, not_true_eq_false, not_false_eq_true, i10, eq_self, decide_true, decide_false, Bool.or_true, Bool.true_or, Bool.or_false, Bool.false_or, eX12_cancel_0, eX12_cancel_10, e1, ze0, if_neg, nI_pred]
      rfl
    · refine ⟨n, Q, by omega, rfl, rfl, fun k hk => ?_⟩
      obtain ⟨a1, a2⟩ := hrow k (by omega)
      exact ⟨(va_up_ne _ _ (by omega)).trans a1, a2⟩
    · exact ((frm.rf _ _ _).u 32 _ (by decide) (by decide)).k 30 _ (by decide)
end S36
