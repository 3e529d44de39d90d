/-! PART 39: SOONEST, class and model -/
/-- a rest is a small number -/
theorem rsf_n {M : Nat → Nat → Int32} {rn : Nat} (hR : rn ≤ 8 ∧ M 32 1 = nI rn ∧ M 67 26 = nI rn ∧ ∀ k, k < rn → M 33 k = M 87 k ∧ M 34 k = M 88 k ∧ M 35 k = M 89 k ∧ ∃ r, 1 ≤ r ∧ r ≤ 1440 ∧ M 89 k = nI r) (v : Int32) : ∃ r, r ≤ 1440 ∧ rsf (M 87) (M 89) rn v = nI r := by
  unfold rsf
  by_cases h : fr (M 87) v rn 0 < rn
  · rw [if_pos h]
    obtain ⟨_, _, _, r, h1, h2, h3⟩ := hR.2.2.2 _ h
    exact ⟨r, h2, h3⟩
  · rw [if_neg h]
    exact ⟨0, by decide, rfl⟩
/-- the end of a dive and its rest -/
def pe (M : Nat → Nat → Int32) (rn k : Nat) : Nat := (M 92 k).toNatClampNeg + (M 94 k).toNatClampNeg + max 1 (rsf (M 87) (M 89) rn (M 93 k)).toNatClampNeg
section S39
variable (d : Nat) (M : Nat → Nat → Int32) (J : Nat → Nat → Int64) (R : Nat → Nat → Option Nat) (c e nL : Nat) (xs : Nat → Int32) (D : px_H)
theorem c_past_l {n rn : Nat} {Q : Nat → Nat} (hI : IDn n Q (M 32 2) (M 67 30) (R 36) D (M 90) (M 91) (M 92) (M 93) (M 94)) (hR : rn ≤ 8 ∧ M 32 1 = nI rn ∧ M 67 26 = nI rn ∧ ∀ k, k < rn → M 33 k = M 87 k ∧ M 34 k = M 88 k ∧ M 35 k = M 89 k ∧ ∃ r, 1 ≤ r ∧ r ≤ 1440 ∧ M 89 k = nI r) (a b : Int32) (t m ow : Nat) (ht : t < 2 ^ 26) (hm : m < 2 ^ 26) : ∀ (g k p : Nat), p < 2 ^ 26 → k + g = n → ∃ p', px_run (px_mk (kX1_pastHindrance (px_ex px_tab (d + 3)))) 14 ([some (.ref 32), some (.int a), some (.int b), some (.int (nI t)), none, some (.int (nI ow)), some (.int (nI p)), some (.int (nI (t + m))), some (.int (nI k)), none], [], (hp M J R c e nL xs D)) = some (some (Value.int (nI p')), (hp (M) (J) (R) (c) (e) nL xs (D))) ∧ p' < 2 ^ 26 ∧ p ≤ p' ∧ (p' = p ∨ ∃ h, k ≤ h ∧ h < n ∧ ofB (M 90) (M 91) a b h = true ∧ (mtB (M 92) (M 94) (nI t) (nI m) h = true ∨ nrB (M 92) (M 93) (M 94) (rsf (M 87) (M 89) rn) (nI t) (nI m) (nI ow) h = true) ∧ p' = pe M rn h) ∧ ∀ h, k ≤ h → h < n → ofB (M 90) (M 91) a b h = true → (mtB (M 92) (M 94) (nI t) (nI m) h = true ∨ nrB (M 92) (M 93) (M 94) (rsf (M 87) (M 89) rn) (nI t) (nI m) (nI ow) h = true) → pe M rn h ≤ p'
  | 0, k, p, hp', hk => by
    have hn := hI.1
    refine ⟨p, ?_, hp', Nat.le_refl _, Or.inl rfl, fun h h1 h2 => by omega⟩
    rw [eX1_pastHindrance_14]
    simp (disch := omega) only [px_bd_s, px_psh_s, px_psh_n, px_vb_s, px_ib_s, px_wb_s, px_bo_s, px_bo_n, Bool.cond_decide, cond_true, cond_false, ite_not, Bool.and_true, if_true, if_false, not_true_eq_false, not_false_eq_true, i10, eq_self, decide_true, decide_false, Bool.or_true, Bool.true_or, Bool.or_false, Bool.false_or, za0, zb0, zc0, zd0, ze0, zf0, za1, zb1, zc1, zd1, ze1, zf1, za2, zb2, zc2, zd2, ze2, zf2, za3, zb3, zc3, zd3, ze3, zf3, za4, zb4, zc4, zd4, ze4, zf4, za5, zb5, zc5, zd5, ze5, zf5, za6, zb6, zc6, zd6, ze6, zf6, za7, zb7, zc7, zd7, ze7, zf7, za8, zb8, zc8, zd8, ze8, zf8, za9, zb9, zc9, zd9, ze9, zf9, za10, zb10, zc10, zd10, ze10, zf10, za20, zb20, zc20, zd20, ze20, zf20, za24, zb24, zc24, zd24, ze24, zf24, za39, zb39, zc39, zd39, ze39, zf39, za40, zb40, zc40, zd40, ze40, zf40, za50, zb50, zc50, zd50, ze50, zf50, za51, zb51, zc51, zd51, ze51, zf51, za60, zb60, zc60, zd60, ze60, zf60, za90, zb90, zc90, zd90, ze90, zf90, za99, zb99, zc99, zd99, ze99, zf99, za100, zb100, zc100, zd100, ze100, zf100, za101, zb101, zc101, zd101, ze101, zf101, za120, zb120, zc120, zd120, ze120, zf120, za160, zb160, zc160, zd160, ze160, zf160, za200, zb200, zc200, zd200, ze200, zf200, za400, zb400, zc400, zd400, ze400, zf400, za999, zb999, zc999, zd999, ze999, zf999, za1000, zb1000, zc1000, zd1000, ze1000, zf1000, za1440, zb1440, zc1440, zd1440, ze1440, zf1440, zp1, zp2, zp3, zp8, zp40, zq8, zq10, zq40, nI_leI, nI_ltI, nI_eq, px_inbT, nI_clamp, nI_add, pk_m1, if_pos, if_neg, hI.2.1, eX1_pastHindrance_112]
  | g + 1, k, p, hp', hk => by
    have hn := hI.1
    obtain ⟨h1, h2, ⟨s, hs, es⟩, ⟨l, hl1, hl2, el⟩⟩ := hI.2.2.2 k (by omega)
    obtain ⟨rho, hrho, er⟩ := rsf_n hR (M 93 k)
    have er3 : rsf (M 33) (M 35) rn (M 93 k) = nI rho := (rsf_eq M hR _).2.trans er
    have epe : pe M rn k = s + l + max 1 rho := by
      unfold pe
      rw [es, el, er, nI_clamp (by omega), nI_clamp (by omega), nI_clamp (by omega)]
    have enr : (if dvV (M 90) (M 91) (M 92) (M 93) (M 94) k 2 + dvV (M 90) (M 91) (M 92) (M 93) (M 94) k 4 < nI t then !(decide (rsf (M 33) (M 35) rn (dvV (M 90) (M 91) (M 92) (M 93) (M 94) k 3) ≤ nI t - (dvV (M 90) (M 91) (M 92) (M 93) (M 94) k 2 + dvV (M 90) (M 91) (M 92) (M 93) (M 94) k 4))) else !(decide (nI ow ≤ dvV (M 90) (M 91) (M 92) (M 93) (M 94) k 2 - nI (t + m)))) = nrB (M 92) (M 93) (M 94) (rsf (M 87) (M 89) rn) (nI t) (nI m) (nI ow) k := by
      show (if M 92 k + M 94 k < nI t then !(decide (rsf (M 33) (M 35) rn (M 93 k) ≤ nI t - (M 92 k + M 94 k))) else !(decide (nI ow ≤ M 92 k - nI (t + m)))) = _
      unfold nrB
      rw [(rsf_eq M hR _).2, nI_add]
    have skip : px_run (px_mk (kX1_pastHindrance (px_ex px_tab (d + 3)))) 14 ([some (.ref 32), some (.int a), some (.int b), some (.int (nI t)), none, some (.int (nI ow)), some (.int (nI p)), some (.int (nI (t + m))), some (.int (nI k)), none], [], (hp M J R c e nL xs D)) = px_run (px_mk (kX1_pastHindrance (px_ex px_tab (d + 3)))) 14 ([some (.ref 32), some (.int a), some (.int b), some (.int (nI t)), none, some (.int (nI ow)), some (.int (nI p)), some (.int (nI (t + m))), some (.int (nI (k + 1))), none], [], (hp M J R c e nL xs D)) → ¬ (ofB (M 90) (M 91) a b k = true ∧ (mtB (M 92) (M 94) (nI t) (nI m) k = true ∨ nrB (M 92) (M 93) (M 94) (rsf (M 87) (M 89) rn) (nI t) (nI m) (nI ow) k = true)) → ∃ p', px_run (px_mk (kX1_pastHindrance (px_ex px_tab (d + 3)))) 14 ([some (.ref 32), some (.int a), some (.int b), some (.int (nI t)), none, some (.int (nI ow)), some (.int (nI p)), some (.int (nI (t + m))), some (.int (nI k)), none], [], (hp M J R c e nL xs D)) = some (some (Value.int (nI p')), (hp (M) (J) (R) (c) (e) nL xs (D))) ∧ p' < 2 ^ 26 ∧ p ≤ p' ∧ (p' = p ∨ ∃ h, k ≤ h ∧ h < n ∧ ofB (M 90) (M 91) a b h = true ∧ (mtB (M 92) (M 94) (nI t) (nI m) h = true ∨ nrB (M 92) (M 93) (M 94) (rsf (M 87) (M 89) rn) (nI t) (nI m) (nI ow) h = true) ∧ p' = pe M rn h) ∧ ∀ h, k ≤ h → h < n → ofB (M 90) (M 91) a b h = true → (mtB (M 92) (M 94) (nI t) (nI m) h = true ∨ nrB (M 92) (M 93) (M 94) (rsf (M 87) (M 89) rn) (nI t) (nI m) (nI ow) h = true) → pe M rn h ≤ p' := by
      intro hr hno
      obtain ⟨p', r1, r2, r3, r4, r5⟩ := c_past_l hI hR a b t m ow ht hm g (k + 1) p hp' (by omega)
      refine ⟨p', hr.trans r1, r2, r3, ?_, fun h z1 z2 z3 z4 => ?_⟩
      · rcases r4 with q | ⟨h, q1, q2⟩
        · exact Or.inl q
        · exact Or.inr ⟨h, by omega, q2⟩
      · rcases Nat.lt_or_ge k h with y | y
        · exact r5 h y z2 z3 z4
        · rw [show h = k from by omega] at z3 z4
          exact absurd ⟨z3, z4⟩ hno
    have hop : ∀ (_ : px_run (px_mk (kX1_pastHindrance (px_ex px_tab (d + 3)))) 14 ([some (.ref 32), some (.int a), some (.int b), some (.int (nI t)), none, some (.int (nI ow)), some (.int (nI p)), some (.int (nI (t + m))), some (.int (nI k)), none], [], (hp M J R c e nL xs D)) = px_run (px_mk (kX1_pastHindrance (px_ex px_tab (d + 3)))) 80 ([some (.ref 32), some (.int a), some (.int b), some (.int (nI t)), none, some (.int (nI ow)), some (.int (nI p)), some (.int (nI (t + m))), some (.int (nI k)), some (.ref (111 + Q k))], [], (hp M J R c e nL xs D))), ofB (M 90) (M 91) a b k = true → (mtB (M 92) (M 94) (nI t) (nI m) k = true ∨ nrB (M 92) (M 93) (M 94) (rsf (M 87) (M 89) rn) (nI t) (nI m) (nI ow) k = true) → ∃ p', px_run (px_mk (kX1_pastHindrance (px_ex px_tab (d + 3)))) 14 ([some (.ref 32), some (.int a), some (.int b), some (.int (nI t)), none, some (.int (nI ow)), some (.int (nI p)), some (.int (nI (t + m))), some (.int (nI k)), none], [], (hp M J R c e nL xs D)) = some (some (Value.int (nI p')), (hp (M) (J) (R) (c) (e) nL xs (D))) ∧ p' < 2 ^ 26 ∧ p ≤ p' ∧ (p' = p ∨ ∃ h, k ≤ h ∧ h < n ∧ ofB (M 90) (M 91) a b h = true ∧ (mtB (M 92) (M 94) (nI t) (nI m) h = true ∨ nrB (M 92) (M 93) (M 94) (rsf (M 87) (M 89) rn) (nI t) (nI m) (nI ow) h = true) ∧ p' = pe M rn h) ∧ ∀ h, k ≤ h → h < n → ofB (M 90) (M 91) a b h = true → (mtB (M 92) (M 94) (nI t) (nI m) h = true ∨ nrB (M 92) (M 93) (M 94) (rsf (M 87) (M 89) rn) (nI t) (nI m) (nI ow) h = true) → pe M rn h ≤ p' := by
      intro hr ho hh
      have cr := c_restAfter (d + 1) M J R c e nL xs D hR.1 hR.2.1 (M 93 k)
      rw [show (if fr (M 33) (M 93 k) rn 0 < rn then M 35 (fr (M 33) (M 93 k) rn 0) else 0) = rsf (M 33) (M 35) rn (M 93 k) from rfl, er3] at cr
      have e80 : px_run (px_mk (kX1_pastHindrance (px_ex px_tab (d + 3)))) 80 ([some (.ref 32), some (.int a), some (.int b), some (.int (nI t)), none, some (.int (nI ow)), some (.int (nI p)), some (.int (nI (t + m))), some (.int (nI k)), some (.ref (111 + Q k))], [], (hp M J R c e nL xs D)) = px_run (px_mk (kX1_pastHindrance (px_ex px_tab (d + 3)))) 14 ([some (.ref 32), some (.int a), some (.int b), some (.int (nI t)), none, some (.int (nI ow)), some (.int (nI (max p (pe M rn k)))), some (.int (nI (t + m))), some (.int (nI (k + 1))), none], [], (hp M J R c e nL xs D)) := by
        simp only [px_bd_s, px_psh_s, px_psh_n, px_vb_s, px_ib_s, px_wb_s, px_bo_s, px_bo_n, Bool.cond_decide, cond_true, cond_false, ite_not, Bool.and_true, if_true, if_false, not_true_eq_false, not_false_eq_true, i10, eq_self, decide_true, decide_false, Bool.or_true, Bool.true_or, Bool.or_false, Bool.false_or, eX1_pastHindrance_106, eX1_pastHindrance_80, eX1_pastHindrance_80_2, eX1_pastHindrance_80_3, eX1_pastHindrance_80_6, eX1_pastHindrance_80_7, eX1_pastHindrance_80_8, dv_isc h2, c_end (d + 2) _ _ _ _ _ _ _ _ h2, dv_g3 h2, nI_1]
        rw [show dvV (M 90) (M 91) (M 92) (M 93) (M 94) k 3 = M 93 k from rfl, show dvV (M 90) (M 91) (M 92) (M 93) (M 94) k 2 = M 92 k from rfl, show dvV (M 90) (M 91) (M 92) (M 93) (M 94) k 4 = M 94 k from rfl, es, el, cr]
        simp only [px_bd_s, px_psh_s, px_psh_n, px_vb_s, px_ib_s, px_wb_s, px_bo_s, px_bo_n, Bool.cond_decide, cond_true, cond_false, ite_not, Bool.and_true, if_true, if_false, not_true_eq_false, not_false_eq_true, i10, eq_self, decide_true, decide_false, Bool.or_true, Bool.true_or, Bool.or_false, Bool.false_or, eX1_pastHindrance_106, eX1_pastHindrance_80_8, nI_1]
        have e1 : (if (1 : Int32) < nI rho then nI rho else 1) = nI (max 1 rho) := by
          simp (disch := omega) only [zb1]
          by_cases hx : 1 < rho
          · rw [if_pos hx, show max 1 rho = rho from by omega]
          · rw [if_neg hx, show max 1 rho = 1 from by omega]
            rfl
        rw [e1]
        simp (disch := omega) only [nI_add, nI_ltI]
        have e2 : (if p < s + l + max 1 rho then nI (s + l + max 1 rho) else nI p) = nI (max p (pe M rn k)) := by
          rw [epe]
          by_cases hx : p < s + l + max 1 rho
          · rw [if_pos hx, show max p (s + l + max 1 rho) = s + l + max 1 rho from by omega]
          · rw [if_neg hx, show max p (s + l + max 1 rho) = p from by omega]
        rw [e2]
      obtain ⟨p', r1, r2, r3, r4, r5⟩ := c_past_l hI hR a b t m ow ht hm g (k + 1) (max p (pe M rn k)) (by rw [epe]; omega) (by omega)
      refine ⟨p', (hr.trans e80).trans r1, r2, by omega, ?_, fun h z1 z2 z3 z4 => ?_⟩
      · rcases r4 with q | ⟨h, q1, q2⟩
        · by_cases hx : pe M rn k ≤ p
          · exact Or.inl (by omega)
          · exact Or.inr ⟨k, Nat.le_refl _, by omega, ho, hh, by omega⟩
        · exact Or.inr ⟨h, by omega, q2⟩
      · rcases Nat.lt_or_ge k h with y | y
        · exact r5 h y z2 z3 z4
        · rw [show h = k from by omega]
          omega
    have step : px_run (px_mk (kX1_pastHindrance (px_ex px_tab (d + 3)))) 14 ([some (.ref 32), some (.int a), some (.int b), some (.int (nI t)), none, some (.int (nI ow)), some (.int (nI p)), some (.int (nI (t + m))), some (.int (nI k)), none], [], (hp M J R c e nL xs D)) = cond (ofB (M 90) (M 91) a b k && (mtB (M 92) (M 94) (nI t) (nI m) k || nrB (M 92) (M 93) (M 94) (rsf (M 87) (M 89) rn) (nI t) (nI m) (nI ow) k)) (px_run (px_mk (kX1_pastHindrance (px_ex px_tab (d + 3)))) 80 ([some (.ref 32), some (.int a), some (.int b), some (.int (nI t)), none, some (.int (nI ow)), some (.int (nI p)), some (.int (nI (t + m))), some (.int (nI k)), some (.ref (111 + Q k))], [], (hp M J R c e nL xs D))) (px_run (px_mk (kX1_pastHindrance (px_ex px_tab (d + 3)))) 14 ([some (.ref 32), some (.int a), some (.int b), some (.int (nI t)), none, some (.int (nI ow)), some (.int (nI p)), some (.int (nI (t + m))), some (.int (nI (k + 1))), none], [], (hp M J R c e nL xs D))) := by
      rw [eX1_pastHindrance_14]
      simp (disch := omega) only [px_bd_s, px_psh_s, px_psh_n, px_vb_s, px_ib_s, px_wb_s, px_bo_s, px_bo_n, Bool.cond_decide, cond_true, cond_false, ite_not, Bool.and_true, if_true, if_false, not_true_eq_false, not_false_eq_true, i10, eq_self, decide_true, decide_false, Bool.or_true, Bool.true_or, Bool.or_false, Bool.false_or, hI.2.1, nI_leI, if_neg, px_inbT, nI_clamp, h1, eX1_pastHindrance_106, eX1_pastHindrance_14_13, eX1_pastHindrance_14_14, eX1_pastHindrance_55, eX1_pastHindrance_14_17, eX1_pastHindrance_55_3, eX1_pastHindrance_14_18, eX1_pastHindrance_55_4, eX1_pastHindrance_55_11, nI_1, dv_isc h2, c_dhas (d + 2) _ _ _ _ _ _ _ _ h2, c_meets (d + 1) _ _ _ _ _ _ _ _ h2, c_tooNear _ _ _ _ _ _ _ _ _ h2 hR.1 hR.2.1, enr]
      have emt : (if nI (t + m) < dvV (M 90) (M 91) (M 92) (M 93) (M 94) k 2 ∨ dvV (M 90) (M 91) (M 92) (M 93) (M 94) k 2 + dvV (M 90) (M 91) (M 92) (M 93) (M 94) k 4 < nI t then (0 : Int32) else 1) = b2i (mtB (M 92) (M 94) (nI t) (nI m) k) := by
        show (if nI (t + m) < M 92 k ∨ M 92 k + M 94 k < nI t then (0 : Int32) else 1) = _
        unfold mtB
        rw [nI_add]
        by_cases hx : nI (t + m) < M 92 k ∨ M 92 k + M 94 k < nI t
        · rw [if_pos hx, decide_eq_true hx]; rfl
        · rw [if_neg hx, decide_eq_false hx]; rfl
      rw [emt]
      rw [show dvV (M 90) (M 91) (M 92) (M 93) (M 94) k 0 = M 90 k from rfl, show dvV (M 90) (M 91) (M 92) (M 93) (M 94) k 1 = M 91 k from rfl]
      unfold ofB
      by_cases o1 : M 90 k = a ∨ M 91 k = a
      · simp only [if_pos o1, px_bd_s, px_psh_s, px_psh_n, px_vb_s, px_ib_s, px_wb_s, px_bo_s, px_bo_n, Bool.cond_decide, cond_true, cond_false, ite_not, Bool.and_true, if_true, if_false, not_true_eq_false, not_false_eq_true, i10, eq_self, decide_true, decide_false, Bool.or_true, Bool.true_or, Bool.or_false, Bool.false_or, o1]
        cases mtB (M 92) (M 94) (nI t) (nI m) k <;> cases nrB (M 92) (M 93) (M 94) (rsf (M 87) (M 89) rn) (nI t) (nI m) (nI ow) k <;> rfl
      · simp only [if_neg o1, px_bd_s, px_psh_s, px_psh_n, px_vb_s, px_ib_s, px_wb_s, px_bo_s, px_bo_n, Bool.cond_decide, cond_true, cond_false, ite_not, Bool.and_true, if_true, if_false, not_true_eq_false, not_false_eq_true, i10, eq_self, decide_true, decide_false, Bool.or_true, Bool.true_or, Bool.or_false, Bool.false_or, o1]
        by_cases o2 : M 90 k = b ∨ M 91 k = b
        · simp only [if_pos o2, px_bd_s, px_psh_s, px_psh_n, px_vb_s, px_ib_s, px_wb_s, px_bo_s, px_bo_n, Bool.cond_decide, cond_true, cond_false, ite_not, Bool.and_true, if_true, if_false, not_true_eq_false, not_false_eq_true, i10, eq_self, decide_true, decide_false, Bool.or_true, Bool.true_or, Bool.or_false, Bool.false_or, o2]
          cases mtB (M 92) (M 94) (nI t) (nI m) k <;> cases nrB (M 92) (M 93) (M 94) (rsf (M 87) (M 89) rn) (nI t) (nI m) (nI ow) k <;> rfl
        · simp only [if_neg o2, px_bd_s, px_psh_s, px_psh_n, px_vb_s, px_ib_s, px_wb_s, px_bo_s, px_bo_n, Bool.cond_decide, cond_true, cond_false, ite_not, Bool.and_true, if_true, if_false, not_true_eq_false, not_false_eq_true, i10, eq_self, decide_true, decide_false, Bool.or_true, Bool.true_or, Bool.or_false, Bool.false_or, o2]
          rfl
    cases ho : ofB (M 90) (M 91) a b k with
    | false =>
      rw [ho] at step
      exact skip step (fun q => by rw [ho] at q; cases q.1)
    | true =>
      cases hmt : mtB (M 92) (M 94) (nI t) (nI m) k with
      | true =>
        rw [ho, hmt] at step
        exact hop step ho (Or.inl hmt)
      | false =>
        cases hnr : nrB (M 92) (M 93) (M 94) (rsf (M 87) (M 89) rn) (nI t) (nI m) (nI ow) k with
        | true =>
          rw [ho, hmt, hnr] at step
          exact hop step ho (Or.inr hnr)
        | false =>
          rw [ho, hmt, hnr] at step
          exact skip step (fun q => by rw [hmt, hnr] at q; rcases q.2 with z | z <;> cases z)
end S39
