/-! PART 40: SOONEST: both searches -/
def TT (M : Nat → Nat → Int32) (n rn : Nat) (a b : Int32) (m ow t : Nat) : Int32 := trm (cl (ofB (M 90) (M 91) a b) (mtB (M 92) (M 94) (nI t) (nI m)) (nrB (M 92) (M 93) (M 94) (rsf (M 87) (M 89) rn) (nI t) (nI m) (nI ow)) n 0 false) (ac (fun k => if (M 90 k = a ∨ M 91 k = a) ∧ M 92 k / 1440 = nI t / 1440 then M 94 k else 0) n 0 0) (ac (fun k => if (M 90 k = b ∨ M 91 k = b) ∧ M 92 k / 1440 = nI t / 1440 then M 94 k else 0) n 0 0) (nI m)
def mu (M : Nat → Nat → Int32) (n rn L t : Nat) : Nat := cn (fun k => decide (t < pe M rn k)) n + (L / 1440 + 1 - t / 1440)
section S40
variable (d : Nat) (M : Nat → Nat → Int32) (J : Nat → Nat → Int64) (R : Nat → Nat → Option Nat) (c e nL : Nat) (xs : Nat → Int32) (D : px_H)
theorem cm_cb {n rn : Nat} {Q : Nat → Nat} (hI : IDn n Q (M 32 2) (M 67 30) (R 36) D (M 90) (M 91) (M 92) (M 93) (M 94)) (a b v : Int32) {m ow t : Nat} (ho : rsf (M 87) (M 89) rn v = nI ow) (hm : m ≤ 200) (ht : t < 2 ^ 26) : cl (ofB (M 90) (M 91) a b) (mtB (M 92) (M 94) (nI t) (nI m)) (nrM (M 92) (M 93) (M 94) (rsf (M 87) (M 89) rn) (nI t) (nI m) (rsf (M 87) (M 89) rn v)) n 0 false = cl (ofB (M 90) (M 91) a b) (mtB (M 92) (M 94) (nI t) (nI m)) (nrB (M 92) (M 93) (M 94) (rsf (M 87) (M 89) rn) (nI t) (nI m) (nI ow)) n 0 false := by
  apply cl_c
  intro i _ hi
  refine ⟨rfl, fun _ => ⟨rfl, fun hmt => ?_⟩⟩
  obtain ⟨a1, a2, ⟨s, hs, es⟩, ⟨l, hl1, hl2, el⟩⟩ := hI.2.2.2 i (by omega)
  exact (nr_eq es el (by omega) (by omega) (by omega) (by omega) rfl ho.symm hmt).symm
theorem c_timeT {n rn : Nat} {Q : Nat → Nat} (hI : IDn n Q (M 32 2) (M 67 30) (R 36) D (M 90) (M 91) (M 92) (M 93) (M 94)) (hR : rn ≤ 8 ∧ M 32 1 = nI rn ∧ M 67 26 = nI rn ∧ ∀ k, k < rn → M 33 k = M 87 k ∧ M 34 k = M 88 k ∧ M 35 k = M 89 k ∧ ∃ r, 1 ≤ r ∧ r ≤ 1440 ∧ M 89 k = nI r) (a b v : Int32) {m ow t : Nat} (ho : rsf (M 87) (M 89) rn v = nI ow) (hm : m ≤ 200) (ht : t < 2 ^ 26) : px_ex px_tab (d + 4) 14 [Value.ref (32), Value.int (a), Value.int (b), Value.int (nI t), Value.int (nI m), Value.int (nI ow)] (hp (M) (J) (R) (c) (e) nL xs (D)) = some (some (Value.int (TT M n rn a b m ow t)), (hp (M) (J) (R) (c) (e) nL xs (D))) := by
  have h := c_timeRf d M J R c e nL xs D hI hR a b v (t := nI t) (m := nI m) rfl rfl (by omega) hm
  rw [(rsf_eq M hR v).2] at h
  rw [cm_cb M R D hI a b v ho hm ht, ho] at h
  exact h
theorem m_clashT {n rn : Nat} {Q : Nat → Nat} (hI : IDn n Q (M 32 2) (M 67 30) (R 36) D (M 90) (M 91) (M 92) (M 93) (M 94)) (hR : rn ≤ 8 ∧ M 32 1 = nI rn ∧ M 67 26 = nI rn ∧ ∀ k, k < rn → M 33 k = M 87 k ∧ M 34 k = M 88 k ∧ M 35 k = M 89 k ∧ ∃ r, 1 ≤ r ∧ r ≤ 1440 ∧ M 89 k = nI r) (a b v : Int32) {m ow t : Nat} (ho : rsf (M 87) (M 89) rn v = nI ow) (hm : m ≤ 200) (ht : t < 2 ^ 26) : px_ex px_tab (d + 3) 202 [Value.ref (67), Value.int (a), Value.int (b), Value.int (nI t), Value.int (v), Value.int (nI m)] (hp (M) (J) (R) (c) (e) nL xs (D)) = some (some (Value.int (TT M n rn a b m ow t)), (hp (M) (J) (R) (c) (e) nL xs (D))) := by
  rw [m_clashes _ _ _ _ _ _ _ _ _ hI.1 hI.2.2.1 hR.1 hR.2.2.1, cm_cb M R D hI a b v ho hm ht]
  rfl
theorem div_n {t : Nat} (ht : t < 2 ^ 31) : nI t / 1440 = nI (t / 1440) := pk_div (d := 1440) ht (by decide) (by decide)
/-- a full day stays full -/
theorem ng_5 {n rn : Nat} (a b : Int32) {m ow t0 : Nat} (ht : t0 < 2 ^ 26) (h : TT M n rn a b m ow t0 = 5) (t : Nat) (h1 : t0 ≤ t) (h2 : t < (t0 / 1440 + 1) * 1440) : ¬ TT M n rn a b m ow t = 0 := by
  intro h0
  have hd : t / 1440 = t0 / 1440 := by omega
  have ht2 : t < 2 ^ 31 := by omega
  unfold TT at h h0
  rw [div_n ht2, hd, ← div_n (show t0 < 2 ^ 31 by omega)] at h0
  have c0 := trm_5 (cl_le _ _ _ _ _ _) _ _ _ h
  obtain ⟨z1, z2, z3⟩ := (trm_0 (cl_le _ _ _ _ _ _) _ _ _).mp h0
  have : trm (cl (ofB (M 90) (M 91) a b) (mtB (M 92) (M 94) (nI t0) (nI m)) (nrB (M 92) (M 93) (M 94) (rsf (M 87) (M 89) rn) (nI t0) (nI m) (nI ow)) n 0 false) (ac (fun k => if (M 90 k = a ∨ M 91 k = a) ∧ M 92 k / 1440 = nI t0 / 1440 then M 94 k else 0) n 0 0) (ac (fun k => if (M 90 k = b ∨ M 91 k = b) ∧ M 92 k / 1440 = nI t0 / 1440 then M 94 k else 0) n 0 0) (nI m) = 0 := (trm_0 (cl_le _ _ _ _ _ _) _ _ _).mpr ⟨c0, z2, z3⟩
  rw [this] at h
  exact absurd h (by decide)
/-- a dive that hinders: no moment before its end and rest -/
theorem ng_h {n rn : Nat} {Q : Nat → Nat} (hI : IDn n Q (M 32 2) (M 67 30) (R 36) D (M 90) (M 91) (M 92) (M 93) (M 94)) (hR : rn ≤ 8 ∧ M 32 1 = nI rn ∧ M 67 26 = nI rn ∧ ∀ k, k < rn → M 33 k = M 87 k ∧ M 34 k = M 88 k ∧ M 35 k = M 89 k ∧ ∃ r, 1 ≤ r ∧ r ≤ 1440 ∧ M 89 k = nI r) (a b : Int32) {m ow t0 : Nat} (hm : m ≤ 200) (how : ow ≤ 1440) (ht : t0 < 2 ^ 25) {h : Nat} (hh : h < n) (ho : ofB (M 90) (M 91) a b h = true) (hb : mtB (M 92) (M 94) (nI t0) (nI m) h = true ∨ nrB (M 92) (M 93) (M 94) (rsf (M 87) (M 89) rn) (nI t0) (nI m) (nI ow) h = true) : t0 < pe M rn h ∧ pe M rn h < 2 ^ 26 ∧ ∀ t, t0 ≤ t → t < pe M rn h → ¬ TT M n rn a b m ow t = 0 := by
  obtain ⟨a1, a2, ⟨s, hs, es⟩, ⟨l, hl1, hl2, el⟩⟩ := hI.2.2.2 h hh
  obtain ⟨rho, hrho, er⟩ := rsf_n hR (M 93 h)
  have epe : pe M rn h = s + l + max 1 rho := by
    unfold pe
    rw [es, el, er, nI_clamp (by omega), nI_clamp (by omega), nI_clamp (by omega)]
  obtain ⟨k1, k2⟩ := hin_k (S := M 92) (P := M 93) (L := M 94) (rf := rsf (M 87) (M 89) rn) (k := h) es el (by omega) (by omega) (show m < 2 ^ 26 by omega) er (by omega) (show ow < 2 ^ 26 by omega) (show t0 < 2 ^ 26 by omega) hb
  rw [epe]
  refine ⟨k1, by omega, fun t h1 h2 h0 => ?_⟩
  unfold TT at h0
  have c0 := ((trm_0 (cl_le _ _ _ _ _ _) _ _ _).mp h0).1
  have := ((cl_0 _ _ _ _ _ _).mp c0).2 h (Nat.zero_le _) (by omega) ho
  rcases k2 t h1 h2 with z | z
  · rw [this.1] at z; cases z
  · rw [this.2] at z; cases z
/-- a clash has a dive that hinders -/
theorem hin_ex {n rn : Nat} (a b : Int32) {m ow t0 : Nat} (h0 : ¬ TT M n rn a b m ow t0 = 0) (h5 : ¬ TT M n rn a b m ow t0 = 5) : ∃ h, h < n ∧ ofB (M 90) (M 91) a b h = true ∧ (mtB (M 92) (M 94) (nI t0) (nI m) h = true ∨ nrB (M 92) (M 93) (M 94) (rsf (M 87) (M 89) rn) (nI t0) (nI m) (nI ow) h = true) := by
  apply Decidable.byContradiction
  intro hc
  have c0 : cl (ofB (M 90) (M 91) a b) (mtB (M 92) (M 94) (nI t0) (nI m)) (nrB (M 92) (M 93) (M 94) (rsf (M 87) (M 89) rn) (nI t0) (nI m) (nI ow)) n 0 false = 0 := by
    apply (cl_0 _ _ _ _ _ _).mpr
    refine ⟨rfl, fun i _ hi ho => ⟨?_, ?_⟩⟩
    · cases hx : mtB (M 92) (M 94) (nI t0) (nI m) i with
      | false => rfl
      | true => exact absurd ⟨i, by omega, ho, Or.inl hx⟩ hc
    · cases hx : nrB (M 92) (M 93) (M 94) (rsf (M 87) (M 89) rn) (nI t0) (nI m) (nI ow) i with
      | false => rfl
      | true => exact absurd ⟨i, by omega, ho, Or.inr hx⟩ hc
  unfold TT at h0 h5
  rw [c0] at h0 h5
  unfold trm at h0 h5
  rw [if_pos rfl] at h0 h5
  by_cases z1 : 120 < ac (fun k => if (M 90 k = a ∨ M 91 k = a) ∧ M 92 k / 1440 = nI t0 / 1440 then M 94 k else 0) n 0 0 + nI m
  · rw [if_pos z1] at h5; exact h5 rfl
  · rw [if_neg z1] at h0 h5
    by_cases z2 : ac (fun k => if (M 90 k = b ∨ M 91 k = b) ∧ M 92 k / 1440 = nI t0 / 1440 then M 94 k else 0) n 0 0 + nI m ≤ 120
    · rw [if_pos z2] at h0; exact h0 rfl
    · rw [if_neg z2] at h5; exact h5 rfl
theorem c_soon_l {n rn : Nat} {Q : Nat → Nat} (hI : IDn n Q (M 32 2) (M 67 30) (R 36) D (M 90) (M 91) (M 92) (M 93) (M 94)) (hR : rn ≤ 8 ∧ M 32 1 = nI rn ∧ M 67 26 = nI rn ∧ ∀ k, k < rn → M 33 k = M 87 k ∧ M 34 k = M 88 k ∧ M 35 k = M 89 k ∧ ∃ r, 1 ≤ r ∧ r ≤ 1440 ∧ M 89 k = nI r) (a b v : Int32) {m ow L : Nat} (ho : rsf (M 87) (M 89) rn v = nI ow) (how : ow ≤ 1440) (hm : m ≤ 200) (hL : L ≤ 1439999) : ∀ (f t s : Nat) (o3 o4 o10 o11 : Option Value), (t ≤ L → mu M n rn L t ≤ f) → s + f ≤ 99 → t < 2 ^ 26 → ∃ r, px_run (px_mk (kX1_firstMoment (px_ex px_tab (d + 4)))) 39 ([some (.ref 32), some (.int a), some (.int b), o3, o4, some (.int (nI m)), some (.int (nI ow)), some (.int (nI L)), some (.int (nI t)), some (.int (nI s)), o10, o11], [], (hp M J R c e nL xs D)) = some (some (Value.int (r)), (hp (M) (J) (R) (c) (e) nL xs (D))) ∧ isAns (fun t => TT M n rn a b m ow t = 0) L t r := by
  intro f
  induction f with
  | zero =>
    intro t s o3 o4 o10 o11 hmu hs ht
    have hlt : L < t := by
      rcases Nat.lt_or_ge L t with h | h
      · exact h
      · have := hmu h
        unfold mu at this
        have hdiv : t / 1440 ≤ L / 1440 := Nat.div_le_div_right h
        omega
    refine ⟨-1, ?_, Or.inr ⟨rfl, fun t' h1 h2 => by omega⟩⟩
    rw [eX1_firstMoment_39]
    simp (disch := omega) only [px_bd_s, px_psh_s, px_psh_n, px_vb_s, px_ib_s, px_wb_s, px_bo_s, px_bo_n, Bool.cond_decide, cond_true, cond_false, ite_not, Bool.and_true, if_true, if_false, not_true_eq_false, not_false_eq_true, i10, eq_self, decide_true, decide_false, Bool.or_true, Bool.true_or, Bool.or_false, Bool.false_or, za100, if_neg, nI_ltI, if_pos, eX1_firstMoment_128]
  | succ f ih =>
    intro t s o3 o4 o10 o11 hmu hs ht
    rcases Nat.lt_or_ge L t with hlt | hge
    · refine ⟨-1, ?_, Or.inr ⟨rfl, fun t' h1 h2 => by omega⟩⟩
      rw [eX1_firstMoment_39]
      simp (disch := omega) only [px_bd_s, px_psh_s, px_psh_n, px_vb_s, px_ib_s, px_wb_s, px_bo_s, px_bo_n, Bool.cond_decide, cond_true, cond_false, ite_not, Bool.and_true, if_true, if_false, not_true_eq_false, not_false_eq_true, i10, eq_self, decide_true, decide_false, Bool.or_true, Bool.true_or, Bool.or_false, Bool.false_or, za100, if_neg, nI_ltI, if_pos, eX1_firstMoment_128]
    · have hmu := hmu hge
      have hdiv : t / 1440 ≤ L / 1440 := Nat.div_le_div_right hge
      have ct := c_timeT d M J R c e nL xs D hI hR a b v (t := t) ho hm ht
      by_cases h0 : TT M n rn a b m ow t = 0
      · refine ⟨nI t, ?_, Or.inl ⟨t, rfl, Nat.le_refl _, hge, h0, fun t' h1 h2 => by omega⟩⟩
        rw [eX1_firstMoment_39]
        simp (disch := omega) only [px_bd_s, px_psh_s, px_psh_n, px_vb_s, px_ib_s, px_wb_s, px_bo_s, px_bo_n, Bool.cond_decide, cond_true, cond_false, ite_not, Bool.and_true, if_true, if_false, not_true_eq_false, not_false_eq_true, i10, eq_self, decide_true, decide_false, Bool.or_true, Bool.true_or, Bool.or_false, Bool.false_or, za100, if_neg, nI_ltI, ct, eX1_firstMoment_39_13, h0]
      · by_cases h5 : TT M n rn a b m ow t = 5
        · obtain ⟨r, hr, ha⟩ := ih ((t / 1440 + 1) * 1440) (s + 1) none none none none (fun hle => by
            unfold mu at hmu ⊢
            have hc : cn (fun k => decide ((t / 1440 + 1) * 1440 < pe M rn k)) n ≤ cn (fun k => decide (t < pe M rn k)) n := cn_m n (fun k _ hk => by
              have := of_decide_eq_true hk
              exact decide_eq_true (by omega))
            have hd2 : ((t / 1440 + 1) * 1440) / 1440 = t / 1440 + 1 := Nat.mul_div_cancel _ (by decide)
            omega) (by omega) (by omega)
          refine ⟨r, ?_, isAns_m (by omega) (fun t' h1 h2 => ng_5 M a b ht h5 t' h1 h2) ha⟩
          rw [eX1_firstMoment_39]
          simp (disch := omega) only [px_bd_s, px_psh_s, px_psh_n, px_vb_s, px_ib_s, px_wb_s, px_bo_s, px_bo_n, Bool.cond_decide, cond_true, cond_false, ite_not, Bool.and_true, if_true, if_false, not_true_eq_false, not_false_eq_true, i10, eq_self, decide_true, decide_false, Bool.or_true, Bool.true_or, Bool.or_false, Bool.false_or, za100, if_neg, nI_ltI, ct, h5, eX1_firstMoment_39_13, eX1_firstMoment_75, eX1_firstMoment_86, eX1_firstMoment_120, show ¬ (5 : Int32) = 0 from by decide, div_n, nI_1]
          rw [show nI (t / 1440 + 1) * 1440 = nI ((t / 1440 + 1) * 1440) from pk_mul _ 1440]
          exact hr
        · obtain ⟨p', q1, q2, q3, q4, q5⟩ := c_past_l d M J R c e nL xs D hI hR a b t m ow ht (by omega) n 0 (t + 1) (by omega) (by omega)
          obtain ⟨h, z1, z2, z3⟩ := hin_ex M a b h0 h5
          have hng := ng_h M R D hI hR a b hm how (show t < 2 ^ 25 by omega) z1 z2 z3
          have hpe := q5 h (Nat.zero_le _) z1 z2 z3
          obtain ⟨r, hr, ha⟩ := ih p' (s + 1) none none none none (fun hle => by
            unfold mu at hmu ⊢
            have hc : cn (fun k => decide (p' < pe M rn k)) n < cn (fun k => decide (t < pe M rn k)) n := cn_s n (fun k _ hk => by
              have := of_decide_eq_true hk
              exact decide_eq_true (by omega)) h z1 (decide_eq_false (by omega)) (decide_eq_true hng.1)
            have hd2 : t / 1440 ≤ p' / 1440 := Nat.div_le_div_right (by omega)
            omega) (by omega) q2
          refine ⟨r, ?_, isAns_m (by omega) (fun t' h1 h2 => ?_) ha⟩
          · have cp : px_ex px_tab (d + 4) 20 [Value.ref (32), Value.int (a), Value.int (b), Value.int (nI t), Value.int (nI m), Value.int (nI ow)] (hp (M) (J) (R) (c) (e) nL xs (D)) = some (some (Value.int (nI p')), (hp (M) (J) (R) (c) (e) nL xs (D))) := by
              rw [xX1_pastHindrance, eX1_pastHindrance_0, nI_1, nI_add]
              refine Eq.trans ?_ q1
              rw [eX1_pastHindrance_14, show (0 : Int32) = nI 0 from rfl, eX1_pastHindrance_14]
            rw [eX1_firstMoment_39]
            simp (disch := omega) only [px_bd_s, px_psh_s, px_psh_n, px_vb_s, px_ib_s, px_wb_s, px_bo_s, px_bo_n, Bool.cond_decide, cond_true, cond_false, ite_not, Bool.and_true, if_true, if_false, not_true_eq_false, not_false_eq_true, i10, eq_self, decide_true, decide_false, Bool.or_true, Bool.true_or, Bool.or_false, Bool.false_or, za100, if_neg, nI_ltI, ct, h0, h5, eX1_firstMoment_39_13, eX1_firstMoment_75, eX1_firstMoment_85, eX1_firstMoment_86, eX1_firstMoment_108_7, eX1_firstMoment_108, eX1_firstMoment_120, nI_1, cp]
            exact hr
          · rcases q4 with w | ⟨g, w1, w2, w3, w4, w5⟩
            · rw [show t' = t from by omega]
              exact h0
            · exact (ng_h M R D hI hR a b hm how (show t < 2 ^ 25 by omega) w2 w3 w4).2.2 t' h1 (by omega)
theorem m_soon_l {n rn : Nat} {Q : Nat → Nat} (hI : IDn n Q (M 32 2) (M 67 30) (R 36) D (M 90) (M 91) (M 92) (M 93) (M 94)) (hR : rn ≤ 8 ∧ M 32 1 = nI rn ∧ M 67 26 = nI rn ∧ ∀ k, k < rn → M 33 k = M 87 k ∧ M 34 k = M 88 k ∧ M 35 k = M 89 k ∧ ∃ r, 1 ≤ r ∧ r ≤ 1440 ∧ M 89 k = nI r) (a b v : Int32) {m ow mo L : Nat} (ho : rsf (M 87) (M 89) rn v = nI ow) (hm : m ≤ 200) (hmo : mo ≤ 1439999) (hL : L = if 1439999 < mo + 10080 then 1439999 else mo + 10080) : ∀ (g t : Nat), t + g = L + 1 → ∃ r, px_run (px_mk (kX12_soonest (px_ex px_tab (d + 3)))) 41 ([some (.ref 67), some (.int a), some (.int b), some (.int (nI mo)), some (.int v), some (.int (nI m)), some (.int (nI t))], [], (hp M J R c e nL xs D)) = some (some (Value.int (r)), (hp (M) (J) (R) (c) (e) nL xs (D))) ∧ isAns (fun t => TT M n rn a b m ow t = 0) L t r := by
  have e1 : nI mo + 10080 = nI (mo + 10080) := nI_add mo 10080
  have hL2 : L ≤ 1439999 ∧ L ≤ mo + 10080 ∧ (1439999 ≤ L ∨ mo + 10080 ≤ L) := by
    rw [hL]
    split <;> omega
  intro g
  induction g with
  | zero =>
    intro t ht
    refine ⟨-1, ?_, Or.inr ⟨rfl, fun t' h1 h2 => by omega⟩⟩
    rw [eX12_soonest_41, e1]
    by_cases h1 : mo + 10080 < t
    · simp (disch := omega) only [px_bd_s, px_psh_s, px_psh_n, px_vb_s, px_ib_s, px_wb_s, px_bo_s, px_bo_n, Bool.cond_decide, cond_true, cond_false, ite_not, Bool.and_true, if_true, if_false, not_true_eq_false, not_false_eq_true, i10, eq_self, decide_true, decide_false, Bool.or_true, Bool.true_or, Bool.or_false, Bool.false_or, nI_ltI, if_pos h1, eX12_soonest_83]
    · rw [show (1440000 : Int32) = nI 1440000 from rfl]
      simp (disch := omega) only [px_bd_s, px_psh_s, px_psh_n, px_vb_s, px_ib_s, px_wb_s, px_bo_s, px_bo_n, Bool.cond_decide, cond_true, cond_false, ite_not, Bool.and_true, if_true, if_false, not_true_eq_false, not_false_eq_true, i10, eq_self, decide_true, decide_false, Bool.or_true, Bool.true_or, Bool.or_false, Bool.false_or, nI_ltI, nI_leI, if_neg h1, if_pos, eX12_soonest_83]
  | succ g ih =>
    intro t ht
    have mc := m_clashT d M J R c e nL xs D hI hR a b v (t := t) ho hm (by omega)
    have st : px_run (px_mk (kX12_soonest (px_ex px_tab (d + 3)))) 41 ([some (.ref 67), some (.int a), some (.int b), some (.int (nI mo)), some (.int v), some (.int (nI m)), some (.int (nI t))], [], (hp M J R c e nL xs D)) = if TT M n rn a b m ow t = 0 then some (some (Value.int (nI t)), (hp (M) (J) (R) (c) (e) nL xs (D))) else px_run (px_mk (kX12_soonest (px_ex px_tab (d + 3)))) 41 ([some (.ref 67), some (.int a), some (.int b), some (.int (nI mo)), some (.int v), some (.int (nI m)), some (.int (nI (t + 1)))], [], (hp M J R c e nL xs D)) := by
      rw [eX12_soonest_41, e1, show (1440000 : Int32) = nI 1440000 from rfl]
      simp (disch := omega) only [px_bd_s, px_psh_s, px_psh_n, px_vb_s, px_ib_s, px_wb_s, px_bo_s, px_bo_n, Bool.cond_decide, cond_true, cond_false, ite_not, Bool.and_true, if_true, if_false, not_true_eq_false, not_false_eq_true, i10, eq_self, decide_true, decide_false, Bool.or_true, Bool.true_or, Bool.or_false, Bool.false_or, nI_ltI, nI_leI, if_neg, mc, eX12_soonest_41_15, eX12_soonest_77, nI_1]
    by_cases h0 : TT M n rn a b m ow t = 0
    · rw [if_pos h0] at st
      exact ⟨nI t, st, Or.inl ⟨t, rfl, Nat.le_refl _, by omega, h0, fun t' h1 h2 => by omega⟩⟩
    · rw [if_neg h0] at st
      obtain ⟨r, hr, ha⟩ := ih (t + 1) (by omega)
      refine ⟨r, st.trans hr, isAns_m (by omega) (fun t' h1 h2 => ?_) ha⟩
      rw [show t' = t from by omega]
      exact h0
theorem t_soonest (hD : IDr M) (hW : IRw M) (hI : IDv M R D) (a b t v u : Int32) : ∃ w, px_ex px_tab (d + 6) 144 [Value.ref (13), Value.int (a), Value.int (b), Value.int (t), Value.int (v), Value.int (u)] (hp (M) (J) (R) (c) (e) nL xs (D)) = some (some (Value.int (w)), (hp (M) (J) (R) (c) (e) nL xs (D))) ∧ px_ex px_tab (d + 6) 207 [Value.ref (67), Value.int (a), Value.int (b), Value.int (t), Value.int (v), Value.int (u)] (hp (M) (J) (R) (c) (e) nL xs (D)) = some (some (Value.int (w)), (hp (M) (J) (R) (c) (e) nL xs (D))) := by
  obtain ⟨dm, hm6, e32, e67⟩ := hD
  obtain ⟨rn, hR⟩ := hW
  obtain ⟨n, Q, hI⟩ := hI
  have hn := hI.1
  by_cases hk : askd dm a b t v u
  · obtain ⟨mo, hmo, rfl⟩ := nI_of2 (x := t) (M := 1439999) (n := 1439999) (by decide) (Int32.not_lt.mpr hk.2.2.2.1.1) hk.2.2.2.1.2
    have hu1 : ∃ mm, 1 ≤ mm ∧ mm ≤ 200 ∧ u = nI mm := by
      obtain ⟨r, hr, rfl⟩ := nI_of2 (x := u) (M := 200) (n := 200) (by decide) (fun q => Int32.not_lt.mpr hk.2.2.2.2.2.1 (Int32.lt_of_lt_of_le q (by decide))) hk.2.2.2.2.2.2
      exact ⟨r, (za1 (by omega)).mp hk.2.2.2.2.2.1, hr, rfl⟩
    obtain ⟨mm, hmm1, hmm, rfl⟩ := hu1
    have e0 := (rsf_eq M hR v).1
    have ctr := c_tableRefusal (d + 2) M J R c e nL xs D hR.1 hR.2.1 v (nI mm)
    rw [e0] at ctr
    by_cases hq : fr (M 87) v rn 0 < rn ∧ nI mm ≤ M 88 (fr (M 87) v rn 0)
    · rw [if_pos hq.1, show M 34 (fr (M 87) v rn 0) = M 88 (fr (M 87) v rn 0) from (hR.2.2.2 _ hq.1).2.1, if_pos hq.2] at ctr
      obtain ⟨ow, how, ho⟩ := rsf_n hR v
      have cr := c_restAfter (d + 2) M J R c e nL xs D hR.1 hR.2.1 v
      rw [show (if fr (M 33) v rn 0 < rn then M 35 (fr (M 33) v rn 0) else 0) = rsf (M 33) (M 35) rn v from rfl, (rsf_eq M hR v).2, ho] at cr
      generalize hLe : (if 1439999 < mo + 10080 then 1439999 else mo + 10080) = L
      have hL2 : L ≤ 1439999 ∧ L ≤ mo + 10080 ∧ (1439999 ≤ L ∨ mo + 10080 ≤ L) := by
        rw [← hLe]
        split <;> omega
      have eL : (if (1439999 : Int32) < nI mo + 10080 then 1439999 else nI mo + 10080) = nI L := by
        rw [show nI mo + 10080 = nI (mo + 10080) from nI_add mo 10080, show (1439999 : Int32) = nI 1439999 from rfl, ← hLe]
        simp (disch := omega) only [nI_ltI]
        split <;> rfl
      obtain ⟨r1, c1, i1⟩ := c_soon_l d M J R c e nL xs D hI hR a b v (m := mm) (ow := ow) (L := L) ho how hmm hL2.1 48 mo 0 (some (.int (nI mo))) (some (.int v)) none none (fun _ => by
        unfold mu
        have := cn_le (fun k => decide (mo < pe M rn k)) n
        omega) (by decide) (by omega)
      rw [nI_0] at c1
      obtain ⟨r2, m2, i2⟩ := m_soon_l (d + 2) M J R c e nL xs D hI hR a b v (m := mm) (ow := ow) (mo := mo) (L := L) ho hmm hmo hLe.symm (L + 1 - mo) mo (by omega)
      refine ⟨r1, ?_, ?_⟩
      · rw [xX11_soonest]
        simp only [px_bd_s, px_psh_s, px_psh_n, px_vb_s, px_ib_s, px_wb_s, px_bo_s, px_bo_n, Bool.cond_decide, cond_true, cond_false, ite_not, Bool.and_true, if_true, if_false, not_true_eq_false, not_false_eq_true, i10, eq_self, decide_true, decide_false, Bool.or_true, Bool.true_or, Bool.or_false, Bool.false_or, eX11_soonest_0, eX11_soonest_0_8, eX11_soonest_20, eX11_soonest_20_8, c_can_y (d + 3) _ _ _ _ _ _ _ _ hm6 e32 hk, xX1_firstMoment, eX1_firstMoment_0, eX1_firstMoment_0_4, eX1_firstMoment_13, eX1_firstMoment_13_3, ctr, cr, eL, c1]
      · have mr := m_refused (d + 1) M J R c e nL xs D hn hI.2.2.1 hR.1 hR.2.2.1 a b (nI mo) v (nI mm)
        have hz : rfz M n rn a b (nI mo) v (nI mm) = TT M n rn a b mm ow mo := by
          unfold rfz
          rw [if_pos hq.1, if_pos hq.2, cm_cb M R D hI a b v ho hmm (by omega)]
          rfl
        have hin : px_in (TT M n rn a b mm ow mo) 1 2 = 0 := by
          unfold TT trm
          have h4 := cl_le (ofB (M 90) (M 91) a b) (mtB (M 92) (M 94) (nI mo) (nI mm)) (nrB (M 92) (M 93) (M 94) (rsf (M 87) (M 89) rn) (nI mo) (nI mm) (nI ow)) n 0 false
          have h3 : ∀ (g k : Nat) (r : Bool), cl (ofB (M 90) (M 91) a b) (mtB (M 92) (M 94) (nI mo) (nI mm)) (nrB (M 92) (M 93) (M 94) (rsf (M 87) (M 89) rn) (nI mo) (nI mm) (nI ow)) g k r = 0 ∨ 3 ≤ cl (ofB (M 90) (M 91) a b) (mtB (M 92) (M 94) (nI mo) (nI mm)) (nrB (M 92) (M 93) (M 94) (rsf (M 87) (M 89) rn) (nI mo) (nI mm) (nI ow)) g k r := by
            intro g
            induction g with
            | zero => intro k r; cases r; exact Or.inl rfl; exact Or.inr (by show 3 ≤ 4; decide)
            | succ g ih =>
              intro k r
              rw [cl_s]
              cases (ofB (M 90) (M 91) a b) k with
              | false => exact ih _ _
              | true =>
                cases mtB (M 92) (M 94) (nI mo) (nI mm) k with
                | true => exact Or.inr (Nat.le_refl _)
                | false => exact ih _ _
          have h3 := h3 n 0 false
          generalize cl (ofB (M 90) (M 91) a b) (mtB (M 92) (M 94) (nI mo) (nI mm)) (nrB (M 92) (M 93) (M 94) (rsf (M 87) (M 89) rn) (nI mo) (nI mm) (nI ow)) n 0 false = cc at h3 h4
          by_cases hc : cc = 0
          · rw [if_pos hc]
            split
            · decide
            · split <;> decide
          · rw [if_neg hc]
            rw [px_in_0]
            rintro ⟨_, q⟩
            rw [zc2 (by omega)] at q
            omega
        rw [hz] at mr
        rw [isAns_u i1 i2]
        rw [xX12_soonest]
        simp only [px_bd_s, px_psh_s, px_psh_n, px_vb_s, px_ib_s, px_wb_s, px_bo_s, px_bo_n, Bool.cond_decide, cond_true, cond_false, ite_not, Bool.and_true, if_true, if_false, not_true_eq_false, not_false_eq_true, i10, eq_self, decide_true, decide_false, Bool.or_true, Bool.true_or, Bool.or_false, Bool.false_or, eX12_soonest_0, eX12_soonest_0_7, eX12_soonest_17, eX12_soonest_17_7, eX12_soonest_17_10, eX12_soonest_38, m_isDive_y (d + 3) _ _ _ _ _ _ _ _ e67 hk, mr, c_in, hin, m2]
    · refine ⟨-1, ?_, ?_⟩
      · rw [xX11_soonest]
        by_cases h1 : fr (M 87) v rn 0 < rn
        · have h2 : ¬ nI mm ≤ M 88 (fr (M 87) v rn 0) := fun q => hq ⟨h1, q⟩
          rw [if_pos h1, show M 34 (fr (M 87) v rn 0) = M 88 (fr (M 87) v rn 0) from (hR.2.2.2 _ h1).2.1, if_neg h2] at ctr
          simp only [px_bd_s, px_psh_s, px_psh_n, px_vb_s, px_ib_s, px_wb_s, px_bo_s, px_bo_n, Bool.cond_decide, cond_true, cond_false, ite_not, Bool.and_true, if_true, if_false, not_true_eq_false, not_false_eq_true, i10, eq_self, decide_true, decide_false, Bool.or_true, Bool.true_or, Bool.or_false, Bool.false_or, eX11_soonest_0, eX11_soonest_0_8, eX11_soonest_20, eX11_soonest_20_8, c_can_y (d + 3) _ _ _ _ _ _ _ _ hm6 e32 hk, xX1_firstMoment, eX1_firstMoment_0, eX1_firstMoment_0_4, ctr, show ¬ (2 : Int32) = 0 from by decide]
        · rw [if_neg h1] at ctr
          simp only [px_bd_s, px_psh_s, px_psh_n, px_vb_s, px_ib_s, px_wb_s, px_bo_s, px_bo_n, Bool.cond_decide, cond_true, cond_false, ite_not, Bool.and_true, if_true, if_false, not_true_eq_false, not_false_eq_true, i10, eq_self, decide_true, decide_false, Bool.or_true, Bool.true_or, Bool.or_false, Bool.false_or, eX11_soonest_0, eX11_soonest_0_8, eX11_soonest_20, eX11_soonest_20_8, c_can_y (d + 3) _ _ _ _ _ _ _ _ hm6 e32 hk, xX1_firstMoment, eX1_firstMoment_0, eX1_firstMoment_0_4, ctr]
      · have mr := m_refused (d + 1) M J R c e nL xs D hn hI.2.2.1 hR.1 hR.2.2.1 a b (nI mo) v (nI mm)
        have hin : px_in (rfz M n rn a b (nI mo) v (nI mm)) 1 2 = 1 := by
          unfold rfz
          by_cases h1 : fr (M 87) v rn 0 < rn
          · have h2 : ¬ nI mm ≤ M 88 (fr (M 87) v rn 0) := fun q => hq ⟨h1, q⟩
            rw [if_pos h1, if_neg h2]
            decide
          · rw [if_neg h1]
            decide
        rw [xX12_soonest]
        simp only [px_bd_s, px_psh_s, px_psh_n, px_vb_s, px_ib_s, px_wb_s, px_bo_s, px_bo_n, Bool.cond_decide, cond_true, cond_false, ite_not, Bool.and_true, if_true, if_false, not_true_eq_false, not_false_eq_true, i10, eq_self, decide_true, decide_false, Bool.or_true, Bool.true_or, Bool.or_false, Bool.false_or, eX12_soonest_0, eX12_soonest_0_7, eX12_soonest_17, eX12_soonest_17_7, eX12_soonest_17_10, m_isDive_y (d + 3) _ _ _ _ _ _ _ _ e67 hk, mr, c_in, hin]
  · refine ⟨-2, ?_, ?_⟩
    · rw [xX11_soonest]
      simp only [px_bd_s, px_psh_s, px_psh_n, px_vb_s, px_ib_s, px_wb_s, px_bo_s, px_bo_n, Bool.cond_decide, cond_true, cond_false, ite_not, Bool.and_true, if_true, if_false, not_true_eq_false, not_false_eq_true, i10, eq_self, decide_true, decide_false, Bool.or_true, Bool.true_or, Bool.or_false, Bool.false_or, eX11_soonest_0, eX11_soonest_0_8, eX11_soonest_20, eX11_soonest_20_8, c_can_n (d + 3) _ _ _ _ _ _ _ _ hm6 e32 hk]
    · rw [xX12_soonest]
      simp only [px_bd_s, px_psh_s, px_psh_n, px_vb_s, px_ib_s, px_wb_s, px_bo_s, px_bo_n, Bool.cond_decide, cond_true, cond_false, ite_not, Bool.and_true, if_true, if_false, not_true_eq_false, not_false_eq_true, i10, eq_self, decide_true, decide_false, Bool.or_true, Bool.true_or, Bool.or_false, Bool.false_or, eX12_soonest_0, eX12_soonest_0_7, m_isDive_n (d + 3) _ _ _ _ _ _ _ _ e67 hk]
end S40
