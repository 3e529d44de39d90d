/-! PART 30: DIVES: what refuses a dive -/
def b2i (b : Bool) : Int32 := cond b 1 0
/-- 3: a dive that meets; 4: one that is too near; 0 -/
def cl (of mt nr : Nat → Bool) : Nat → Nat → Bool → Nat
  | 0, _, r => cond r 4 0
  | g + 1, k, r => cond (of k) (cond (mt k) 3 (cl of mt nr g (k + 1) (r || nr k))) (cl of mt nr g (k + 1) r)
theorem cl_s (of mt nr : Nat → Bool) (g k : Nat) (r : Bool) : cl of mt nr (g + 1) k r = cond (of k) (cond (mt k) 3 (cl of mt nr g (k + 1) (r || nr k))) (cl of mt nr g (k + 1) r) := rfl
theorem cl_c {of mt nr of' mt' nr' : Nat → Bool} : ∀ (g k : Nat) (r : Bool), (∀ i, k ≤ i → i < k + g → of i = of' i ∧ (of' i = true → mt i = mt' i ∧ (mt' i = false → nr i = nr' i))) → cl of mt nr g k r = cl of' mt' nr' g k r
  | 0, _, _, _ => rfl
  | g + 1, k, r, h => by
    rw [cl_s, cl_s]
    obtain ⟨h1, h2⟩ := h k (Nat.le_refl _) (by omega)
    have ih := fun r => cl_c g (k + 1) r (fun i h3 h4 => h i (by omega) (by omega))
    rw [h1]
    cases ho : of' k with
    | false => exact ih r
    | true =>
      obtain ⟨h3, h4⟩ := h2 ho
      rw [h3]
      cases hm : mt' k with
      | true => rfl
      | false =>
        rw [h4 hm]
        exact ih _
theorem cl_le (of mt nr : Nat → Bool) : ∀ (g k : Nat) (r : Bool), cl of mt nr g k r ≤ 4
  | 0, _, r => by
    cases r
    · exact Nat.zero_le _
    · exact Nat.le_refl 4
  | g + 1, k, r => by
    rw [cl_s]
    have ih := fun r => cl_le of mt nr g (k + 1) r
    cases of k <;> cases mt k <;> first | exact ih _ | exact (by decide : (3 : Nat) ≤ 4)
def ofB (A B : Nat → Int32) (a b : Int32) (k : Nat) : Bool := decide (A k = a ∨ B k = a) || decide (A k = b ∨ B k = b)
def mtB (S L : Nat → Int32) (t m : Int32) (k : Nat) : Bool := !(decide (t + m < S k ∨ S k + L k < t))
def nrB (S P L : Nat → Int32) (rf : Int32 → Int32) (t m own : Int32) (k : Nat) : Bool := if S k + L k < t then !(decide (rf (P k) ≤ t - (S k + L k))) else !(decide (own ≤ S k - (t + m)))
def nrM (S P L : Nat → Int32) (rf : Int32 → Int32) (t m own : Int32) (k : Nat) : Bool := if t ≤ S k then !(decide (own ≤ S k - t - m)) else !(decide (rf (P k) ≤ t - (S k + L k)))
/-- the rest after a depth -/
def rsf (f g : Nat → Int32) (n : Nat) (v : Int32) : Int32 := if fr f v n 0 < n then g (fr f v n 0) else 0
section S30
variable (d : Nat) (M : Nat → Nat → Int32) (J : Nat → Nat → Int64) (R : Nat → Nat → Option Nat) (c e nL : Nat) (xs : Nat → Int32) (D : px_H)
theorem c_tooNear {q rn : Nat} {W : Nat → Int32} (h : dvAt D q W) (hrn : rn ≤ 8) (hr32 : M 32 1 = nI rn) (v u w : Int32) : px_ex px_tab (d + 3) 15 [Value.ref (32), Value.ref (111 + q), Value.int (v), Value.int (u), Value.int (w)] (hp (M) (J) (R) (c) (e) nL xs (D)) = some (some (Value.int (b2i (if W 2 + W 4 < v then !(decide (rsf (M 33) (M 35) rn (W 3) ≤ v - (W 2 + W 4))) else !(decide (w ≤ W 2 - u))))), (hp (M) (J) (R) (c) (e) nL xs (D))) := by
  rw [xX1_isTooNear]
  simp only [px_bd_s, px_psh_s, px_psh_n, px_vb_s, px_ib_s, px_wb_s, px_bo_s, px_bo_n, Bool.cond_decide, cond_true, cond_false, ite_not, Bool.and_true, if_true, if_false, not_true_eq_false, not_false_eq_true, i10, eq_self, decide_true, decide_false, Bool.or_true, Bool.true_or, Bool.or_false, Bool.false_or, eX1_isTooNear_0, eX1_isTooNear_0_1, eX1_isTooNear_0_2, eX1_isTooNear_31, eX1_isTooNear_0_6, eX1_isTooNear_31_1, eX1_isTooNear_0_7, eX1_isTooNear_31_2, eX1_isTooNear_0_10, eX1_isTooNear_46, eX1_isTooNear_47, eX1_isTooNear_0_11, eX1_isTooNear_0_12, eX1_isTooNear_29, eX1_isTooNear_30, dv_isc h, c_end (d + 1) _ _ _ _ _ _ _ _ h, dv_g2 h, dv_g3 h, c_restAfter _ _ _ _ _ _ _ _ _ hrn hr32]
  unfold rsf
  by_cases h1 : v ≤ W 2 + W 4
  · rw [if_pos h1, if_neg (Int32.not_lt.mpr h1)]
    by_cases h2 : w ≤ W 2 - u <;> simp [h2, b2i]
  · rw [if_neg h1, if_pos (Int32.not_le.mp h1)]
    by_cases h2 : (if fr (M 33) (W 3) rn 0 < rn then M 35 (fr (M 33) (W 3) rn 0) else 0) ≤ v - (W 2 + W 4) <;> simp [h2, b2i]
theorem c_clash_l {n rn : Nat} {Q : Nat → Nat} (hI : IDn n Q (M 32 2) (M 67 30) (R 36) D (M 90) (M 91) (M 92) (M 93) (M 94)) (hrn : rn ≤ 8) (hr32 : M 32 1 = nI rn) (a b t m own : Int32) : ∀ (g k : Nat) (r : Bool), k + g = n → px_run (px_mk (kX1_timeRefusal (px_ex px_tab (d + 3)))) 12 ([some (.ref 32), some (.int a), some (.int b), some (.int t), some (.int m), some (.int own), some (.int (b2i r)), some (.int (t + m)), some (.int (nI k)), none], [], (hp M J R c e nL xs D)) =
    if cl (ofB (M 90) (M 91) a b) (mtB (M 92) (M 94) t m) (nrB (M 92) (M 93) (M 94) (rsf (M 33) (M 35) rn) t m own) g k r = 0 then px_run (px_mk (kX1_timeRefusal (px_ex px_tab (d + 3)))) 105 ([some (.ref 32), some (.int a), some (.int b), some (.int t), some (.int m), none, some (.int 0), none, none, none], [], (hp M J R c e nL xs D))
    else some (some (Value.int (nI (cl (ofB (M 90) (M 91) a b) (mtB (M 92) (M 94) t m) (nrB (M 92) (M 93) (M 94) (rsf (M 33) (M 35) rn) t m own) g k r))), (hp (M) (J) (R) (c) (e) nL xs (D)))
  | 0, k, r, hk => by
    have hn := hI.1
    rw [eX1_timeRefusal_12]
    simp (disch := omega) only [px_bd_s, px_psh_s, px_psh_n, px_vb_s, px_ib_s, px_wb_s, px_bo_s, px_bo_n, Bool.cond_decide, cond_true, cond_false, ite_not, Bool.and_true, if_true, if_false, not_true_eq_false, not_false_eq_true, i10, eq_self, decide_true, decide_false, Bool.or_true, Bool.true_or, Bool.or_false, Bool.false_or, za0, zb0, zc0, zd0, ze0, zf0, za1, zb1, zc1, zd1, ze1, zf1, za2, zb2, zc2, zd2, ze2, zf2, za3, zb3, zc3, zd3, ze3, zf3, za4, zb4, zc4, zd4, ze4, zf4, za5, zb5, zc5, zd5, ze5, zf5, za6, zb6, zc6, zd6, ze6, zf6, za7, zb7, zc7, zd7, ze7, zf7, za8, zb8, zc8, zd8, ze8, zf8, za9, zb9, zc9, zd9, ze9, zf9, za10, zb10, zc10, zd10, ze10, zf10, za20, zb20, zc20, zd20, ze20, zf20, za24, zb24, zc24, zd24, ze24, zf24, za39, zb39, zc39, zd39, ze39, zf39, za40, zb40, zc40, zd40, ze40, zf40, za50, zb50, zc50, zd50, ze50, zf50, za51, zb51, zc51, zd51, ze51, zf51, za60, zb60, zc60, zd60, ze60, zf60, za90, zb90, zc90, zd90, ze90, zf90, za99, zb99, zc99, zd99, ze99, zf99, za100, zb100, zc100, zd100, ze100, zf100, za101, zb101, zc101, zd101, ze101, zf101, za120, zb120, zc120, zd120, ze120, zf120, za160, zb160, zc160, zd160, ze160, zf160, za200, zb200, zc200, zd200, ze200, zf200, za400, zb400, zc400, zd400, ze400, zf400, za999, zb999, zc999, zd999, ze999, zf999, za1000, zb1000, zc1000, zd1000, ze1000, zf1000, za1440, zb1440, zc1440, zd1440, ze1440, zf1440, zp1, zp2, zp3, zp8, zp40, zq8, zq10, zq40, nI_leI, nI_ltI, nI_eq, px_inbT, nI_clamp, nI_add, pk_m1, if_pos, if_neg, hI.2.1, eX1_timeRefusal_98]
    unfold cl
    cases r
    · rfl
    · rfl
  | g + 1, k, r, hk => by
    have hn := hI.1
    obtain ⟨h1, h2, h3⟩ := hI.2.2.2 k (by omega)
    rw [eX1_timeRefusal_12]
    simp (disch := omega) only [px_bd_s, px_psh_s, px_psh_n, px_vb_s, px_ib_s, px_wb_s, px_bo_s, px_bo_n, Bool.cond_decide, cond_true, cond_false, ite_not, Bool.and_true, if_true, if_false, not_true_eq_false, not_false_eq_true, i10, eq_self, decide_true, decide_false, Bool.or_true, Bool.true_or, Bool.or_false, Bool.false_or, za0, zb0, zc0, zd0, ze0, zf0, za1, zb1, zc1, zd1, ze1, zf1, za2, zb2, zc2, zd2, ze2, zf2, za3, zb3, zc3, zd3, ze3, zf3, za4, zb4, zc4, zd4, ze4, zf4, za5, zb5, zc5, zd5, ze5, zf5, za6, zb6, zc6, zd6, ze6, zf6, za7, zb7, zc7, zd7, ze7, zf7, za8, zb8, zc8, zd8, ze8, zf8, za9, zb9, zc9, zd9, ze9, zf9, za10, zb10, zc10, zd10, ze10, zf10, za20, zb20, zc20, zd20, ze20, zf20, za24, zb24, zc24, zd24, ze24, zf24, za39, zb39, zc39, zd39, ze39, zf39, za40, zb40, zc40, zd40, ze40, zf40, za50, zb50, zc50, zd50, ze50, zf50, za51, zb51, zc51, zd51, ze51, zf51, za60, zb60, zc60, zd60, ze60, zf60, za90, zb90, zc90, zd90, ze90, zf90, za99, zb99, zc99, zd99, ze99, zf99, za100, zb100, zc100, zd100, ze100, zf100, za101, zb101, zc101, zd101, ze101, zf101, za120, zb120, zc120, zd120, ze120, zf120, za160, zb160, zc160, zd160, ze160, zf160, za200, zb200, zc200, zd200, ze200, zf200, za400, zb400, zc400, zd400, ze400, zf400, za999, zb999, zc999, zd999, ze999, zf999, za1000, zb1000, zc1000, zd1000, ze1000, zf1000, za1440, zb1440, zc1440, zd1440, ze1440, zf1440, zp1, zp2, zp3, zp8, zp40, zq8, zq10, zq40, nI_leI, nI_ltI, nI_eq, px_inbT, nI_clamp, nI_add, pk_m1, if_pos, if_neg, hI.2.1, h1, eX1_timeRefusal_92, eX1_timeRefusal_12_13, eX1_timeRefusal_12_14, eX1_timeRefusal_53, eX1_timeRefusal_12_17, eX1_timeRefusal_53_3, eX1_timeRefusal_12_18, eX1_timeRefusal_53_4, eX1_timeRefusal_66, eX1_timeRefusal_85, eX1_timeRefusal_66_8, eX1_timeRefusal_90, eX1_timeRefusal_89, dv_isc h2, c_dhas (d + 2) _ _ _ _ _ _ _ _ h2, c_meets (d + 1) _ _ _ _ _ _ _ _ h2, c_tooNear _ _ _ _ _ _ _ _ _ h2 hrn hr32]
    rw [show dvV (M 90) (M 91) (M 92) (M 93) (M 94) k 0 = M 90 k from rfl, show dvV (M 90) (M 91) (M 92) (M 93) (M 94) k 1 = M 91 k from rfl, show dvV (M 90) (M 91) (M 92) (M 93) (M 94) k 2 = M 92 k from rfl, show dvV (M 90) (M 91) (M 92) (M 93) (M 94) k 3 = M 93 k from rfl, show dvV (M 90) (M 91) (M 92) (M 93) (M 94) k 4 = M 94 k from rfl]
    have ih := fun r => c_clash_l hI hrn hr32 a b t m own g (k + 1) r (by omega)
    have ihT := ih true
    have ihF := ih false
    rw [cl_s]
    have en : nrB (M 92) (M 93) (M 94) (rsf (M 33) (M 35) rn) t m own k = (if M 92 k + M 94 k < t then !(decide (rsf (M 33) (M 35) rn (M 93 k) ≤ t - (M 92 k + M 94 k))) else !(decide (own ≤ M 92 k - (t + m)))) := rfl
    rw [← en]
    by_cases o1 : M 90 k = a ∨ M 91 k = a
    · have eo : ofB (M 90) (M 91) a b k = true := by unfold ofB; simp [o1]
      rw [eo]
      by_cases mt : t + m < M 92 k ∨ M 92 k + M 94 k < t
      · have em : mtB (M 92) (M 94) t m k = false := by unfold mtB; simp [mt]
        rw [em]
        cases hr : r <;> cases hx : nrB (M 92) (M 93) (M 94) (rsf (M 33) (M 35) rn) t m own k <;> simp [o1, mt, b2i, ← ihT, ← ihF]
      · have em : mtB (M 92) (M 94) t m k = true := by unfold mtB; simp [mt]
        rw [em]
        simp [o1, mt]
        rfl
    · by_cases o2 : M 90 k = b ∨ M 91 k = b
      · have eo : ofB (M 90) (M 91) a b k = true := by unfold ofB; simp [o2]
        rw [eo]
        by_cases mt : t + m < M 92 k ∨ M 92 k + M 94 k < t
        · have em : mtB (M 92) (M 94) t m k = false := by unfold mtB; simp [mt]
          rw [em]
          cases hr : r <;> cases hx : nrB (M 92) (M 93) (M 94) (rsf (M 33) (M 35) rn) t m own k <;> simp [o1, o2, mt, b2i, ← ihT, ← ihF]
        · have em : mtB (M 92) (M 94) t m k = true := by unfold mtB; simp [mt]
          rw [em]
          simp [o1, o2, mt]
          rfl
      · have eo : ofB (M 90) (M 91) a b k = false := by unfold ofB; simp [o1, o2]
        rw [eo]
        simp [o1, o2, ih]
/-- what the class, and what the model answers of the times -/
def trm (c : Nat) (w u m : Int32) : Int32 := if c = 0 then (if 120 < w + m then 5 else if u + m ≤ 120 then 0 else 5) else nI c
def trf (c : Nat) (w u m : Int32) : Int32 := if c = 0 then (if (if w < u then u else w) + m ≤ 120 then 0 else 5) else nI c
theorem c_timeRefusal {n rn : Nat} {Q : Nat → Nat} (hI : IDn n Q (M 32 2) (M 67 30) (R 36) D (M 90) (M 91) (M 92) (M 93) (M 94)) (hrn : rn ≤ 8) (hr32 : M 32 1 = nI rn) (a b t m own : Int32) : px_ex px_tab (d + 4) 14 [Value.ref (32), Value.int (a), Value.int (b), Value.int (t), Value.int (m), Value.int (own)] (hp (M) (J) (R) (c) (e) nL xs (D)) = some (some (Value.int (trf (cl (ofB (M 90) (M 91) a b) (mtB (M 92) (M 94) t m) (nrB (M 92) (M 93) (M 94) (rsf (M 33) (M 35) rn) t m own) n 0 false) (ac (fun k => if (M 90 k = a ∨ M 91 k = a) ∧ M 92 k / 1440 = t / 1440 then M 94 k else 0) n 0 0) (ac (fun k => if (M 90 k = b ∨ M 91 k = b) ∧ M 92 k / 1440 = t / 1440 then M 94 k else 0) n 0 0) m)), (hp (M) (J) (R) (c) (e) nL xs (D))) := by
  rw [xX1_timeRefusal, eX1_timeRefusal_0]
  have h := c_clash_l d M J R c e nL xs D hI hrn hr32 a b t m own n 0 false (by omega)
  rw [show b2i false = 0 from rfl, nI_0] at h
  rw [h]
  unfold trf
  generalize cl (ofB (M 90) (M 91) a b) (mtB (M 92) (M 94) t m) (nrB (M 92) (M 93) (M 94) (rsf (M 33) (M 35) rn) t m own) n 0 false = cc
  by_cases h0 : cc = 0
  · rw [if_pos h0, if_pos h0]
    simp only [px_bd_s, px_psh_s, px_psh_n, px_vb_s, px_ib_s, px_wb_s, px_bo_s, px_bo_n, Bool.cond_decide, cond_true, cond_false, ite_not, Bool.and_true, if_true, if_false, not_true_eq_false, not_false_eq_true, i10, eq_self, decide_true, decide_false, Bool.or_true, Bool.true_or, Bool.or_false, Bool.false_or, eX1_timeRefusal_105, eX1_timeRefusal_105_8, eX1_timeRefusal_105_12, eX1_timeRefusal_145, eX1_timeRefusal_146, c_minutesOn (d + 1) _ _ _ _ _ _ _ _ hI]
    split <;> (split <;> rfl)
  · rw [if_neg h0, if_neg h0]
theorem c_tableRefusal {rn : Nat} (hrn : rn ≤ 8) (hr32 : M 32 1 = nI rn) (v m : Int32) : px_ex px_tab (d + 2) 13 [Value.ref (32), Value.int (v), Value.int (m)] (hp (M) (J) (R) (c) (e) nL xs (D)) = some (some (Value.int (if fr (M 33) v rn 0 < rn then (if m ≤ M 34 (fr (M 33) v rn 0) then 0 else 2) else 1)), (hp (M) (J) (R) (c) (e) nL xs (D))) := by
  have hq := fr_le (M 33) v rn 0
  rw [xX1_tableRefusal]
  simp (disch := omega) only [px_bd_s, px_psh_s, px_psh_n, px_vb_s, px_ib_s, px_wb_s, px_bo_s, px_bo_n, Bool.cond_decide, cond_true, cond_false, ite_not, Bool.and_true, if_true, if_false, not_true_eq_false, not_false_eq_true, i10, eq_self, decide_true, decide_false, Bool.or_true, Bool.true_or, Bool.or_false, Bool.false_or, eX1_tableRefusal_0, eX1_tableRefusal_0_3, eX1_tableRefusal_16, eX1_tableRefusal_30, eX1_tableRefusal_31, c_firstRow _ _ _ _ _ _ _ _ _ hrn hr32, hr32, nI_ltI]
  by_cases h : fr (M 33) v rn 0 < rn
  · simp (disch := omega) only [px_inbT, nI_clamp, if_pos h, px_bd_s, px_psh_s, px_psh_n, px_vb_s, px_ib_s, px_wb_s, px_bo_s, px_bo_n, Bool.cond_decide, cond_true, cond_false, ite_not, Bool.and_true, if_true, if_false, not_true_eq_false, not_false_eq_true, i10, eq_self, decide_true, decide_false, Bool.or_true, Bool.true_or, Bool.or_false, Bool.false_or]
    split <;> rfl
  · simp only [if_neg h]
/-- the model -/
theorem m_isOf {k : Nat} (hk : k < 40) (a b : Int32) : px_ex px_tab (d + 1) 199 [Value.ref (67), Value.int (nI k), Value.int (a), Value.int (b)] (hp (M) (J) (R) (c) (e) nL xs (D)) = some (some (Value.int (b2i (ofB (M 90) (M 91) a b k))), (hp (M) (J) (R) (c) (e) nL xs (D))) := by
  rw [xX12_isOf]
  simp (disch := omega) only [px_bd_s, px_psh_s, px_psh_n, px_vb_s, px_ib_s, px_wb_s, px_bo_s, px_bo_n, Bool.cond_decide, cond_true, cond_false, ite_not, Bool.and_true, if_true, if_false, not_true_eq_false, not_false_eq_true, i10, eq_self, decide_true, decide_false, Bool.or_true, Bool.true_or, Bool.or_false, Bool.false_or, za0, zb0, zc0, zd0, ze0, zf0, za1, zb1, zc1, zd1, ze1, zf1, za2, zb2, zc2, zd2, ze2, zf2, za3, zb3, zc3, zd3, ze3, zf3, za4, zb4, zc4, zd4, ze4, zf4, za5, zb5, zc5, zd5, ze5, zf5, za6, zb6, zc6, zd6, ze6, zf6, za7, zb7, zc7, zd7, ze7, zf7, za8, zb8, zc8, zd8, ze8, zf8, za9, zb9, zc9, zd9, ze9, zf9, za10, zb10, zc10, zd10, ze10, zf10, za20, zb20, zc20, zd20, ze20, zf20, za24, zb24, zc24, zd24, ze24, zf24, za39, zb39, zc39, zd39, ze39, zf39, za40, zb40, zc40, zd40, ze40, zf40, za50, zb50, zc50, zd50, ze50, zf50, za51, zb51, zc51, zd51, ze51, zf51, za60, zb60, zc60, zd60, ze60, zf60, za90, zb90, zc90, zd90, ze90, zf90, za99, zb99, zc99, zd99, ze99, zf99, za100, zb100, zc100, zd100, ze100, zf100, za101, zb101, zc101, zd101, ze101, zf101, za120, zb120, zc120, zd120, ze120, zf120, za160, zb160, zc160, zd160, ze160, zf160, za200, zb200, zc200, zd200, ze200, zf200, za400, zb400, zc400, zd400, ze400, zf400, za999, zb999, zc999, zd999, ze999, zf999, za1000, zb1000, zc1000, zd1000, ze1000, zf1000, za1440, zb1440, zc1440, zd1440, ze1440, zf1440, zp1, zp2, zp3, zp8, zp40, zq8, zq10, zq40, nI_leI, nI_ltI, nI_eq, px_inbT, nI_clamp, nI_add, pk_m1, if_pos, if_neg, eX12_isOf_0, eX12_isOf_40, eX12_isOf_44, eX12_isOf_45]
  unfold ofB
  by_cases h1 : M 90 k = a
  · simp [h1, b2i]
  · by_cases h2 : M 91 k = a
    · simp [h1, h2, b2i]
    · by_cases h3 : M 90 k = b
      · simp [h1, h2, h3, b2i]
      · by_cases h4 : M 91 k = b <;> simp [h1, h2, h3, h4, b2i]
theorem m_clash_l {n rn : Nat} (hn : n ≤ 40) (h67 : M 67 30 = nI n) (hrn : rn ≤ 8) (hr67 : M 67 26 = nI rn) (a b t v m : Int32) : ∀ (g k : Nat) (r : Bool), k + g = n → px_run (px_mk (kX12_clashes (px_ex px_tab (d + 2)))) 6 ([some (.ref 67), some (.int a), some (.int b), some (.int t), some (.int v), some (.int m), some (.int (b2i r)), some (.int (nI k)), none, none], [], (hp M J R c e nL xs D)) =
    if cl (ofB (M 90) (M 91) a b) (mtB (M 92) (M 94) t m) (nrM (M 92) (M 93) (M 94) (rsf (M 87) (M 89) rn) t m (rsf (M 87) (M 89) rn v)) g k r = 0 then px_run (px_mk (kX12_clashes (px_ex px_tab (d + 2)))) 137 ([some (.ref 67), some (.int a), some (.int b), some (.int t), none, some (.int m), some (.int 0), none, none, none], [], (hp M J R c e nL xs D))
    else some (some (Value.int (nI (cl (ofB (M 90) (M 91) a b) (mtB (M 92) (M 94) t m) (nrM (M 92) (M 93) (M 94) (rsf (M 87) (M 89) rn) t m (rsf (M 87) (M 89) rn v)) g k r))), (hp (M) (J) (R) (c) (e) nL xs (D)))
  | 0, k, r, hk => by
    rw [eX12_clashes_6]
    simp (disch := omega) only [px_bd_s, px_psh_s, px_psh_n, px_vb_s, px_ib_s, px_wb_s, px_bo_s, px_bo_n, Bool.cond_decide, cond_true, cond_false, ite_not, Bool.and_true, if_true, if_false, not_true_eq_false, not_false_eq_true, i10, eq_self, decide_true, decide_false, Bool.or_true, Bool.true_or, Bool.or_false, Bool.false_or, za0, zb0, zc0, zd0, ze0, zf0, za1, zb1, zc1, zd1, ze1, zf1, za2, zb2, zc2, zd2, ze2, zf2, za3, zb3, zc3, zd3, ze3, zf3, za4, zb4, zc4, zd4, ze4, zf4, za5, zb5, zc5, zd5, ze5, zf5, za6, zb6, zc6, zd6, ze6, zf6, za7, zb7, zc7, zd7, ze7, zf7, za8, zb8, zc8, zd8, ze8, zf8, za9, zb9, zc9, zd9, ze9, zf9, za10, zb10, zc10, zd10, ze10, zf10, za20, zb20, zc20, zd20, ze20, zf20, za24, zb24, zc24, zd24, ze24, zf24, za39, zb39, zc39, zd39, ze39, zf39, za40, zb40, zc40, zd40, ze40, zf40, za50, zb50, zc50, zd50, ze50, zf50, za51, zb51, zc51, zd51, ze51, zf51, za60, zb60, zc60, zd60, ze60, zf60, za90, zb90, zc90, zd90, ze90, zf90, za99, zb99, zc99, zd99, ze99, zf99, za100, zb100, zc100, zd100, ze100, zf100, za101, zb101, zc101, zd101, ze101, zf101, za120, zb120, zc120, zd120, ze120, zf120, za160, zb160, zc160, zd160, ze160, zf160, za200, zb200, zc200, zd200, ze200, zf200, za400, zb400, zc400, zd400, ze400, zf400, za999, zb999, zc999, zd999, ze999, zf999, za1000, zb1000, zc1000, zd1000, ze1000, zf1000, za1440, zb1440, zc1440, zd1440, ze1440, zf1440, zp1, zp2, zp3, zp8, zp40, zq8, zq10, zq40, nI_leI, nI_ltI, nI_eq, px_inbT, nI_clamp, nI_add, pk_m1, if_pos, if_neg, h67, eX12_clashes_130]
    unfold cl
    cases r
    · rfl
    · rfl
  | g + 1, k, r, hk => by
    have ih := fun r => m_clash_l hn h67 hrn hr67 a b t v m g (k + 1) r (by omega)
    have ihT := ih true
    have ihF := ih false
    rw [cl_s]
    have en : nrM (M 92) (M 93) (M 94) (rsf (M 87) (M 89) rn) t m (rsf (M 87) (M 89) rn v) k = if t ≤ M 92 k then !(decide (rsf (M 87) (M 89) rn v ≤ M 92 k - t - m)) else !(decide (rsf (M 87) (M 89) rn (M 93 k) ≤ t - (M 92 k + M 94 k))) := rfl
    rw [eX12_clashes_6]
    simp (disch := omega) only [px_bd_s, px_psh_s, px_psh_n, px_vb_s, px_ib_s, px_wb_s, px_bo_s, px_bo_n, Bool.cond_decide, cond_true, cond_false, ite_not, Bool.and_true, if_true, if_false, not_true_eq_false, not_false_eq_true, i10, eq_self, decide_true, decide_false, Bool.or_true, Bool.true_or, Bool.or_false, Bool.false_or, za0, zb0, zc0, zd0, ze0, zf0, za1, zb1, zc1, zd1, ze1, zf1, za2, zb2, zc2, zd2, ze2, zf2, za3, zb3, zc3, zd3, ze3, zf3, za4, zb4, zc4, zd4, ze4, zf4, za5, zb5, zc5, zd5, ze5, zf5, za6, zb6, zc6, zd6, ze6, zf6, za7, zb7, zc7, zd7, ze7, zf7, za8, zb8, zc8, zd8, ze8, zf8, za9, zb9, zc9, zd9, ze9, zf9, za10, zb10, zc10, zd10, ze10, zf10, za20, zb20, zc20, zd20, ze20, zf20, za24, zb24, zc24, zd24, ze24, zf24, za39, zb39, zc39, zd39, ze39, zf39, za40, zb40, zc40, zd40, ze40, zf40, za50, zb50, zc50, zd50, ze50, zf50, za51, zb51, zc51, zd51, ze51, zf51, za60, zb60, zc60, zd60, ze60, zf60, za90, zb90, zc90, zd90, ze90, zf90, za99, zb99, zc99, zd99, ze99, zf99, za100, zb100, zc100, zd100, ze100, zf100, za101, zb101, zc101, zd101, ze101, zf101, za120, zb120, zc120, zd120, ze120, zf120, za160, zb160, zc160, zd160, ze160, zf160, za200, zb200, zc200, zd200, ze200, zf200, za400, zb400, zc400, zd400, ze400, zf400, za999, zb999, zc999, zd999, ze999, zf999, za1000, zb1000, zc1000, zd1000, ze1000, zf1000, za1440, zb1440, zc1440, zd1440, ze1440, zf1440, zp1, zp2, zp3, zp8, zp40, zq8, zq10, zq40, nI_leI, nI_ltI, nI_eq, px_inbT, nI_clamp, nI_add, pk_m1, if_pos, if_neg, h67, m_isOf (d + 1) _ _ _ _ _ _ _ _, eX12_clashes_6_9]
    cases eo : ofB (M 90) (M 91) a b k with
    | false =>
      simp (disch := omega) only [b2i, cond_false, if_true, eX12_clashes_124, zp1]
      exact ih r
    | true =>
      by_cases m1 : M 92 k + M 94 k < t
      · have em : mtB (M 92) (M 94) t m k = false := by unfold mtB; simp [m1]
        rw [em]
        cases hr : r with
        | true =>
          simp (disch := omega) only [px_bd_s, px_psh_s, px_psh_n, px_vb_s, px_ib_s, px_wb_s, px_bo_s, px_bo_n, Bool.cond_decide, cond_true, cond_false, ite_not, Bool.and_true, if_true, if_false, not_true_eq_false, not_false_eq_true, i10, eq_self, decide_true, decide_false, Bool.or_true, Bool.true_or, Bool.or_false, Bool.false_or, b2i, m1, eX12_clashes_124, eX12_clashes_69, eX12_clashes_117, eX12_clashes_122, zp1, Bool.true_or]
          exact ihT
        | false =>
          rw [en]
          by_cases ht : t ≤ M 92 k
          · by_cases hx : rsf (M 87) (M 89) rn v ≤ M 92 k - t - m
            · have hx' := hx
              unfold rsf at hx'
              simp (disch := omega) only [px_bd_s, px_psh_s, px_psh_n, px_vb_s, px_ib_s, px_wb_s, px_bo_s, px_bo_n, Bool.cond_decide, cond_true, cond_false, ite_not, Bool.and_true, if_true, if_false, not_true_eq_false, not_false_eq_true, i10, eq_self, decide_true, decide_false, Bool.or_true, Bool.true_or, Bool.or_false, Bool.false_or, b2i, m1, ht, hx, hx', eX12_clashes_124, eX12_clashes_69, eX12_clashes_117, eX12_clashes_101, eX12_clashes_122, eX12_clashes_101_8, eX12_clashes_121, zp1, m_restOf _ _ _ _ _ _ _ _ _ hrn hr67, Bool.not_true]
              exact ihF
            · have hx' := hx
              unfold rsf at hx'
              simp (disch := omega) only [px_bd_s, px_psh_s, px_psh_n, px_vb_s, px_ib_s, px_wb_s, px_bo_s, px_bo_n, Bool.cond_decide, cond_true, cond_false, ite_not, Bool.and_true, if_true, if_false, not_true_eq_false, not_false_eq_true, i10, eq_self, decide_true, decide_false, Bool.or_true, Bool.true_or, Bool.or_false, Bool.false_or, b2i, m1, ht, hx, hx', eX12_clashes_124, eX12_clashes_69, eX12_clashes_117, eX12_clashes_101, eX12_clashes_122, eX12_clashes_101_8, eX12_clashes_121, zp1, m_restOf _ _ _ _ _ _ _ _ _ hrn hr67, Bool.not_false]
              exact ihT
          · by_cases hx : rsf (M 87) (M 89) rn (M 93 k) ≤ t - (M 92 k + M 94 k)
            · have hx' := hx
              unfold rsf at hx'
              simp (disch := omega) only [px_bd_s, px_psh_s, px_psh_n, px_vb_s, px_ib_s, px_wb_s, px_bo_s, px_bo_n, Bool.cond_decide, cond_true, cond_false, ite_not, Bool.and_true, if_true, if_false, not_true_eq_false, not_false_eq_true, i10, eq_self, decide_true, decide_false, Bool.or_true, Bool.true_or, Bool.or_false, Bool.false_or, b2i, m1, ht, hx, hx', eX12_clashes_124, eX12_clashes_69, eX12_clashes_117, eX12_clashes_69_14, eX12_clashes_122, eX12_clashes_121, zp1, px_inbT, nI_clamp, m_restOf _ _ _ _ _ _ _ _ _ hrn hr67, Bool.not_true]
              exact ihF
            · have hx' := hx
              unfold rsf at hx'
              simp (disch := omega) only [px_bd_s, px_psh_s, px_psh_n, px_vb_s, px_ib_s, px_wb_s, px_bo_s, px_bo_n, Bool.cond_decide, cond_true, cond_false, ite_not, Bool.and_true, if_true, if_false, not_true_eq_false, not_false_eq_true, i10, eq_self, decide_true, decide_false, Bool.or_true, Bool.true_or, Bool.or_false, Bool.false_or, b2i, m1, ht, hx, hx', eX12_clashes_124, eX12_clashes_69, eX12_clashes_117, eX12_clashes_69_14, eX12_clashes_122, eX12_clashes_121, zp1, px_inbT, nI_clamp, m_restOf _ _ _ _ _ _ _ _ _ hrn hr67, Bool.not_false]
              exact ihT
      · by_cases m2 : t + m < M 92 k
        · have em : mtB (M 92) (M 94) t m k = false := by unfold mtB; simp [m2]
          rw [em]
          cases hr : r with
          | true =>
            simp (disch := omega) only [px_bd_s, px_psh_s, px_psh_n, px_vb_s, px_ib_s, px_wb_s, px_bo_s, px_bo_n, Bool.cond_decide, cond_true, cond_false, ite_not, Bool.and_true, if_true, if_false, not_true_eq_false, not_false_eq_true, i10, eq_self, decide_true, decide_false, Bool.or_true, Bool.true_or, Bool.or_false, Bool.false_or, b2i, m1, m2, eX12_clashes_124, eX12_clashes_69, eX12_clashes_117, eX12_clashes_122, zp1, Bool.true_or]
            exact ihT
          | false =>
            rw [en]
            by_cases ht : t ≤ M 92 k
            · by_cases hx : rsf (M 87) (M 89) rn v ≤ M 92 k - t - m
              · have hx' := hx
                unfold rsf at hx'
                simp (disch := omega) only [px_bd_s, px_psh_s, px_psh_n, px_vb_s, px_ib_s, px_wb_s, px_bo_s, px_bo_n, Bool.cond_decide, cond_true, cond_false, ite_not, Bool.and_true, if_true, if_false, not_true_eq_false, not_false_eq_true, i10, eq_self, decide_true, decide_false, Bool.or_true, Bool.true_or, Bool.or_false, Bool.false_or, b2i, m1, m2, ht, hx, hx', eX12_clashes_124, eX12_clashes_69, eX12_clashes_117, eX12_clashes_101, eX12_clashes_122, eX12_clashes_101_8, eX12_clashes_121, zp1, m_restOf _ _ _ _ _ _ _ _ _ hrn hr67, Bool.not_true]
                exact ihF
              · have hx' := hx
                unfold rsf at hx'
                simp (disch := omega) only [px_bd_s, px_psh_s, px_psh_n, px_vb_s, px_ib_s, px_wb_s, px_bo_s, px_bo_n, Bool.cond_decide, cond_true, cond_false, ite_not, Bool.and_true, if_true, if_false, not_true_eq_false, not_false_eq_true, i10, eq_self, decide_true, decide_false, Bool.or_true, Bool.true_or, Bool.or_false, Bool.false_or, b2i, m1, m2, ht, hx, hx', eX12_clashes_124, eX12_clashes_69, eX12_clashes_117, eX12_clashes_101, eX12_clashes_122, eX12_clashes_101_8, eX12_clashes_121, zp1, m_restOf _ _ _ _ _ _ _ _ _ hrn hr67, Bool.not_false]
                exact ihT
            · by_cases hx : rsf (M 87) (M 89) rn (M 93 k) ≤ t - (M 92 k + M 94 k)
              · have hx' := hx
                unfold rsf at hx'
                simp (disch := omega) only [px_bd_s, px_psh_s, px_psh_n, px_vb_s, px_ib_s, px_wb_s, px_bo_s, px_bo_n, Bool.cond_decide, cond_true, cond_false, ite_not, Bool.and_true, if_true, if_false, not_true_eq_false, not_false_eq_true, i10, eq_self, decide_true, decide_false, Bool.or_true, Bool.true_or, Bool.or_false, Bool.false_or, b2i, m1, m2, ht, hx, hx', eX12_clashes_124, eX12_clashes_69, eX12_clashes_117, eX12_clashes_69_14, eX12_clashes_122, eX12_clashes_121, zp1, px_inbT, nI_clamp, m_restOf _ _ _ _ _ _ _ _ _ hrn hr67, Bool.not_true]
                exact ihF
              · have hx' := hx
                unfold rsf at hx'
                simp (disch := omega) only [px_bd_s, px_psh_s, px_psh_n, px_vb_s, px_ib_s, px_wb_s, px_bo_s, px_bo_n, Bool.cond_decide, cond_true, cond_false, ite_not, Bool.and_true, if_true, if_false, not_true_eq_false, not_false_eq_true, i10, eq_self, decide_true, decide_false, Bool.or_true, Bool.true_or, Bool.or_false, Bool.false_or, b2i, m1, m2, ht, hx, hx', eX12_clashes_124, eX12_clashes_69, eX12_clashes_117, eX12_clashes_69_14, eX12_clashes_122, eX12_clashes_121, zp1, px_inbT, nI_clamp, m_restOf _ _ _ _ _ _ _ _ _ hrn hr67, Bool.not_false]
                exact ihT
        · have em : mtB (M 92) (M 94) t m k = true := by unfold mtB; simp [m1, m2]
          rw [em]
          simp only [px_bd_s, px_psh_s, px_psh_n, px_vb_s, px_ib_s, px_wb_s, px_bo_s, px_bo_n, Bool.cond_decide, cond_true, cond_false, ite_not, Bool.and_true, if_true, if_false, not_true_eq_false, not_false_eq_true, i10, eq_self, decide_true, decide_false, Bool.or_true, Bool.true_or, Bool.or_false, Bool.false_or, b2i, m1, m2]
          rfl
theorem m_clashes {n rn : Nat} (hn : n ≤ 40) (h67 : M 67 30 = nI n) (hrn : rn ≤ 8) (hr67 : M 67 26 = nI rn) (a b t v m : Int32) : px_ex px_tab (d + 3) 202 [Value.ref (67), Value.int (a), Value.int (b), Value.int (t), Value.int (v), Value.int (m)] (hp (M) (J) (R) (c) (e) nL xs (D)) = some (some (Value.int (trm (cl (ofB (M 90) (M 91) a b) (mtB (M 92) (M 94) t m) (nrM (M 92) (M 93) (M 94) (rsf (M 87) (M 89) rn) t m (rsf (M 87) (M 89) rn v)) n 0 false) (ac (fun k => if (M 90 k = a ∨ M 91 k = a) ∧ M 92 k / 1440 = t / 1440 then M 94 k else 0) n 0 0) (ac (fun k => if (M 90 k = b ∨ M 91 k = b) ∧ M 92 k / 1440 = t / 1440 then M 94 k else 0) n 0 0) m)), (hp (M) (J) (R) (c) (e) nL xs (D))) := by
  rw [xX12_clashes, eX12_clashes_0]
  have h := m_clash_l d M J R c e nL xs D hn h67 hrn hr67 a b t v m n 0 false (by omega)
  rw [show b2i false = 0 from rfl, nI_0] at h
  rw [h]
  unfold trm
  generalize cl (ofB (M 90) (M 91) a b) (mtB (M 92) (M 94) t m) (nrM (M 92) (M 93) (M 94) (rsf (M 87) (M 89) rn) t m (rsf (M 87) (M 89) rn v)) n 0 false = cc
  by_cases h0 : cc = 0
  · rw [if_pos h0, if_pos h0]
    simp only [px_bd_s, px_psh_s, px_psh_n, px_vb_s, px_ib_s, px_wb_s, px_bo_s, px_bo_n, Bool.cond_decide, cond_true, cond_false, ite_not, Bool.and_true, if_true, if_false, not_true_eq_false, not_false_eq_true, i10, eq_self, decide_true, decide_false, Bool.or_true, Bool.true_or, Bool.or_false, Bool.false_or, eX12_clashes_137, eX12_clashes_137_6, eX12_clashes_173, eX12_clashes_137_16, eX12_clashes_178, eX12_clashes_177, m_minutesOn (d + 1) _ _ _ _ _ _ _ _ hn h67]
    split
    · rfl
    · split <;> rfl
  · rw [if_neg h0, if_neg h0]
end S30
/-- sums of minutes are small -/
theorem ac_200 {f : Nat → Int32} (hf : ∀ k, ∃ m, m ≤ 200 ∧ f k = nI m) : ∀ (g k a : Nat), ∃ S, S ≤ 200 * g ∧ ac f g k (nI a) = nI (a + S)
  | 0, _, a => ⟨0, Nat.zero_le _, rfl⟩
  | g + 1, k, a => by
    rw [ac_s]
    obtain ⟨m, hm, h⟩ := hf k
    obtain ⟨S, h1, h2⟩ := ac_200 hf g (k + 1) (a + m)
    exact ⟨m + S, by omega, by rw [h, nI_add, h2, Nat.add_assoc]⟩
theorem trf_trm {c w u m : Nat} (hw : w ≤ 8000) (hu : u ≤ 8000) (hm : m ≤ 200) : trf c (nI w) (nI u) (nI m) = trm c (nI w) (nI u) (nI m) := by
  unfold trf trm
  simp (disch := omega) only [za0, zb0, zc0, zd0, ze0, zf0, za1, zb1, zc1, zd1, ze1, zf1, za2, zb2, zc2, zd2, ze2, zf2, za3, zb3, zc3, zd3, ze3, zf3, za4, zb4, zc4, zd4, ze4, zf4, za5, zb5, zc5, zd5, ze5, zf5, za6, zb6, zc6, zd6, ze6, zf6, za7, zb7, zc7, zd7, ze7, zf7, za8, zb8, zc8, zd8, ze8, zf8, za9, zb9, zc9, zd9, ze9, zf9, za10, zb10, zc10, zd10, ze10, zf10, za20, zb20, zc20, zd20, ze20, zf20, za24, zb24, zc24, zd24, ze24, zf24, za39, zb39, zc39, zd39, ze39, zf39, za40, zb40, zc40, zd40, ze40, zf40, za50, zb50, zc50, zd50, ze50, zf50, za51, zb51, zc51, zd51, ze51, zf51, za60, zb60, zc60, zd60, ze60, zf60, za90, zb90, zc90, zd90, ze90, zf90, za99, zb99, zc99, zd99, ze99, zf99, za100, zb100, zc100, zd100, ze100, zf100, za101, zb101, zc101, zd101, ze101, zf101, za120, zb120, zc120, zd120, ze120, zf120, za160, zb160, zc160, zd160, ze160, zf160, za200, zb200, zc200, zd200, ze200, zf200, za400, zb400, zc400, zd400, ze400, zf400, za999, zb999, zc999, zd999, ze999, zf999, za1000, zb1000, zc1000, zd1000, ze1000, zf1000, za1440, zb1440, zc1440, zd1440, ze1440, zf1440, zp1, zp2, zp3, zp8, zp40, zq8, zq10, zq40, nI_leI, nI_ltI, nI_eq, px_inbT, nI_clamp, nI_add, pk_m1, if_pos, if_neg]
  by_cases h0 : c = 0
  · rw [if_pos h0, if_pos h0]
    by_cases h1 : w < u
    · simp (disch := omega) only [if_pos h1, nI_add, zc120, zb120]
      by_cases h2 : u + m ≤ 120
      · rw [if_pos h2, if_neg (by omega)]
      · rw [if_neg h2]
        split <;> rfl
    · simp (disch := omega) only [if_neg h1, nI_add, zc120, zb120]
      by_cases h2 : w + m ≤ 120
      · rw [if_pos h2, if_neg (by omega), if_pos (by omega)]
      · rw [if_neg h2, if_pos (by omega)]
  · rw [if_neg h0, if_neg h0]
theorem i_sub_sub (a b c : Int32) : a - (b + c) = a - b - c := by
  rw [Int32.sub_eq_add_neg (a := a) (b := b + c), Int32.neg_add, Int32.sub_eq_add_neg (a := a - b) (b := c), Int32.sub_eq_add_neg (a := a) (b := b), Int32.sub_eq_add_neg, Int32.add_assoc]
/-- the class's and the model's test of the rest are one, where the dives do not meet -/
theorem nr_eq {S P L : Nat → Int32} {rf rf' : Int32 → Int32} {t m k s l : Nat} {own own' : Int32} (hs : S k = nI s) (hl : L k = nI l) (hs2 : s < 2 ^ 29) (hl2 : l < 2 ^ 29) (ht : t < 2 ^ 29) (hm : m < 2 ^ 29) (hr : rf (P k) = rf' (P k)) (ho : own = own') (hmt : mtB S L (nI t) (nI m) k = false) : nrB S P L rf (nI t) (nI m) own k = nrM S P L rf' (nI t) (nI m) own' k := by
  unfold mtB at hmt
  unfold nrB nrM
  rw [hs, hl] at hmt ⊢
  rw [hr, ho]
  simp (disch := omega) only [nI_add, nI_ltI, nI_leI] at hmt ⊢
  have hmt2 : t + m < s ∨ s + l < t := by
    cases hd : decide (t + m < s ∨ s + l < t) with
    | true => exact of_decide_eq_true hd
    | false => rw [hd] at hmt; cases hmt
  by_cases h1 : s + l < t
  · rw [if_pos h1, if_neg (by omega)]
  · rw [if_neg h1, if_pos (by omega), ← nI_add, i_sub_sub]
