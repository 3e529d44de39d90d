/-! PART 37: DIVE -/
def askd (m : Nat) (a b t v u : Int32) : Prop := px_in a 0 (nI m - 1) = 1 ∧ px_in b 0 (nI m - 1) = 1 ∧ ¬ a = b ∧ (0 ≤ t ∧ t ≤ 1439999) ∧ (1 ≤ v ∧ v ≤ 90) ∧ (1 ≤ u ∧ u ≤ 200)
section S37
variable (d : Nat) (M : Nat → Nat → Int32) (J : Nat → Nat → Int64) (R : Nat → Nat → Option Nat) (c e nL : Nat) (xs : Nat → Int32) (D : px_H)
theorem c_can_y {dm : Nat} (hm : dm ≤ 6) (h32 : M 32 0 = nI dm) {a b t v u : Int32} (h : askd dm a b t v u) : px_ex px_tab (d + 2) 11 [Value.ref (32), Value.int (a), Value.int (b), Value.int (t), Value.int (v), Value.int (u)] (hp (M) (J) (R) (c) (e) nL xs (D)) = some (some (Value.int (1)), (hp (M) (J) (R) (c) (e) nL xs (D))) := by
  obtain ⟨h1, h2, h3, h4, h5, h6⟩ := h
  rw [xX1_canBeAsked]
  simp only [px_bd_s, px_psh_s, px_psh_n, px_vb_s, px_ib_s, px_wb_s, px_bo_s, px_bo_n, Bool.cond_decide, cond_true, cond_false, ite_not, Bool.and_true, if_true, if_false, not_true_eq_false, not_false_eq_true, i10, eq_self, decide_true, decide_false, Bool.or_true, Bool.true_or, Bool.or_false, Bool.false_or, eX1_canBeAsked_0, eX1_canBeAsked_0_3, eX1_canBeAsked_31, eX1_canBeAsked_0_7, eX1_canBeAsked_33, eX1_canBeAsked_64, eX1_canBeAsked_65, c_hasDiver _ _ _ _ _ _ _ _ _ hm h32, h1, h2, h3, Int32.not_lt.mpr h4.1, ltsc (a := 1439999) (b := 1440000) rfl, h4.2, Int32.not_lt.mpr h5.1, Int32.not_lt.mpr h5.2, Int32.not_lt.mpr h6.1, Int32.not_lt.mpr h6.2]
theorem c_can_n {dm : Nat} (hm : dm ≤ 6) (h32 : M 32 0 = nI dm) {a b t v u : Int32} (h : ¬ askd dm a b t v u) : px_ex px_tab (d + 2) 11 [Value.ref (32), Value.int (a), Value.int (b), Value.int (t), Value.int (v), Value.int (u)] (hp (M) (J) (R) (c) (e) nL xs (D)) = some (some (Value.int (0)), (hp (M) (J) (R) (c) (e) nL xs (D))) := by
  rw [xX1_canBeAsked]
  simp only [px_bd_s, px_psh_s, px_psh_n, px_vb_s, px_ib_s, px_wb_s, px_bo_s, px_bo_n, Bool.cond_decide, cond_true, cond_false, ite_not, Bool.and_true, if_true, if_false, not_true_eq_false, not_false_eq_true, i10, eq_self, decide_true, decide_false, Bool.or_true, Bool.true_or, Bool.or_false, Bool.false_or, eX1_canBeAsked_0, eX1_canBeAsked_0_3, eX1_canBeAsked_31, eX1_canBeAsked_0_7, eX1_canBeAsked_33, eX1_canBeAsked_64, eX1_canBeAsked_65, c_hasDiver _ _ _ _ _ _ _ _ _ hm h32, ltsc (a := 1439999) (b := 1440000) rfl]
  rcases px_in_01 a 0 (nI dm - 1) with h1 | h1
  · simp only [h1, px_bd_s, px_psh_s, px_psh_n, px_vb_s, px_ib_s, px_wb_s, px_bo_s, px_bo_n, Bool.cond_decide, cond_true, cond_false, ite_not, Bool.and_true, if_true, if_false, not_true_eq_false, not_false_eq_true, i10, eq_self, decide_true, decide_false, Bool.or_true, Bool.true_or, Bool.or_false, Bool.false_or]
  · rcases px_in_01 b 0 (nI dm - 1) with h2 | h2
    · simp only [h1, h2, px_bd_s, px_psh_s, px_psh_n, px_vb_s, px_ib_s, px_wb_s, px_bo_s, px_bo_n, Bool.cond_decide, cond_true, cond_false, ite_not, Bool.and_true, if_true, if_false, not_true_eq_false, not_false_eq_true, i10, eq_self, decide_true, decide_false, Bool.or_true, Bool.true_or, Bool.or_false, Bool.false_or]
    · by_cases h3 : a = b
      · simp only [h1, h2, if_pos h3, px_bd_s, px_psh_s, px_psh_n, px_vb_s, px_ib_s, px_wb_s, px_bo_s, px_bo_n, Bool.cond_decide, cond_true, cond_false, ite_not, Bool.and_true, if_true, if_false, not_true_eq_false, not_false_eq_true, i10, eq_self, decide_true, decide_false, Bool.or_true, Bool.true_or, Bool.or_false, Bool.false_or]
      · by_cases h4 : t < 0
        · simp only [h1, h2, if_neg h3, if_pos h4, px_bd_s, px_psh_s, px_psh_n, px_vb_s, px_ib_s, px_wb_s, px_bo_s, px_bo_n, Bool.cond_decide, cond_true, cond_false, ite_not, Bool.and_true, if_true, if_false, not_true_eq_false, not_false_eq_true, i10, eq_self, decide_true, decide_false, Bool.or_true, Bool.true_or, Bool.or_false, Bool.false_or]
        · by_cases h5 : t ≤ 1439999
          · by_cases h6 : v < 1
            · simp only [h1, h2, if_neg h3, if_neg h4, if_pos h5, if_pos h6, px_bd_s, px_psh_s, px_psh_n, px_vb_s, px_ib_s, px_wb_s, px_bo_s, px_bo_n, Bool.cond_decide, cond_true, cond_false, ite_not, Bool.and_true, if_true, if_false, not_true_eq_false, not_false_eq_true, i10, eq_self, decide_true, decide_false, Bool.or_true, Bool.true_or, Bool.or_false, Bool.false_or]
            · by_cases h7 : 90 < v
              · simp only [h1, h2, if_neg h3, if_neg h4, if_pos h5, if_neg h6, if_pos h7, px_bd_s, px_psh_s, px_psh_n, px_vb_s, px_ib_s, px_wb_s, px_bo_s, px_bo_n, Bool.cond_decide, cond_true, cond_false, ite_not, Bool.and_true, if_true, if_false, not_true_eq_false, not_false_eq_true, i10, eq_self, decide_true, decide_false, Bool.or_true, Bool.true_or, Bool.or_false, Bool.false_or]
              · by_cases h8 : u < 1
                · simp only [h1, h2, if_neg h3, if_neg h4, if_pos h5, if_neg h6, if_neg h7, if_pos h8, px_bd_s, px_psh_s, px_psh_n, px_vb_s, px_ib_s, px_wb_s, px_bo_s, px_bo_n, Bool.cond_decide, cond_true, cond_false, ite_not, Bool.and_true, if_true, if_false, not_true_eq_false, not_false_eq_true, i10, eq_self, decide_true, decide_false, Bool.or_true, Bool.true_or, Bool.or_false, Bool.false_or]
                · have h9 : 200 < u := Decidable.not_not.mp fun q => h ⟨h1, h2, h3, ⟨Int32.not_lt.mp h4, h5⟩, ⟨Int32.not_lt.mp h6, Int32.not_lt.mp h7⟩, Int32.not_lt.mp h8, Int32.not_lt.mp q⟩
                  simp only [h1, h2, if_neg h3, if_neg h4, if_pos h5, if_neg h6, if_neg h7, if_neg h8, if_pos h9, px_bd_s, px_psh_s, px_psh_n, px_vb_s, px_ib_s, px_wb_s, px_bo_s, px_bo_n, Bool.cond_decide, cond_true, cond_false, ite_not, Bool.and_true, if_true, if_false, not_true_eq_false, not_false_eq_true, i10, eq_self, decide_true, decide_false, Bool.or_true, Bool.true_or, Bool.or_false, Bool.false_or]
          · simp only [h1, h2, if_neg h3, if_neg h4, if_neg h5, px_bd_s, px_psh_s, px_psh_n, px_vb_s, px_ib_s, px_wb_s, px_bo_s, px_bo_n, Bool.cond_decide, cond_true, cond_false, ite_not, Bool.and_true, if_true, if_false, not_true_eq_false, not_false_eq_true, i10, eq_self, decide_true, decide_false, Bool.or_true, Bool.true_or, Bool.or_false, Bool.false_or]
theorem m_isDive_y {dm : Nat} (h67 : M 67 25 = nI dm) {a b t v u : Int32} (h : askd dm a b t v u) : px_ex px_tab (d + 2) 203 [Value.ref (67), Value.int (a), Value.int (b), Value.int (t), Value.int (v), Value.int (u)] (hp (M) (J) (R) (c) (e) nL xs (D)) = some (some (Value.int (1)), (hp (M) (J) (R) (c) (e) nL xs (D))) := by
  obtain ⟨h1, h2, h3, h4, h5, h6⟩ := h
  rw [xX12_isDive]
  simp only [px_bd_s, px_psh_s, px_psh_n, px_vb_s, px_ib_s, px_wb_s, px_bo_s, px_bo_n, Bool.cond_decide, cond_true, cond_false, ite_not, Bool.and_true, if_true, if_false, not_true_eq_false, not_false_eq_true, i10, eq_self, decide_true, decide_false, Bool.or_true, Bool.true_or, Bool.or_false, Bool.false_or, eX12_isDive_0, eX12_isDive_0_7, eX12_isDive_37, eX12_isDive_0_15, eX12_isDive_38, eX12_isDive_83, eX12_isDive_38_7, eX12_isDive_84, eX12_isDive_38_12, eX12_isDive_38_17, c_in, h67, h1, h2, h3, px_in_1 h4, px_in_1 h5, px_in_1 h6]
theorem m_isDive_n {dm : Nat} (h67 : M 67 25 = nI dm) {a b t v u : Int32} (h : ¬ askd dm a b t v u) : px_ex px_tab (d + 2) 203 [Value.ref (67), Value.int (a), Value.int (b), Value.int (t), Value.int (v), Value.int (u)] (hp (M) (J) (R) (c) (e) nL xs (D)) = some (some (Value.int (0)), (hp (M) (J) (R) (c) (e) nL xs (D))) := by
  rw [xX12_isDive]
  simp only [px_bd_s, px_psh_s, px_psh_n, px_vb_s, px_ib_s, px_wb_s, px_bo_s, px_bo_n, Bool.cond_decide, cond_true, cond_false, ite_not, Bool.and_true, if_true, if_false, not_true_eq_false, not_false_eq_true, i10, eq_self, decide_true, decide_false, Bool.or_true, Bool.true_or, Bool.or_false, Bool.false_or, eX12_isDive_0, eX12_isDive_0_7, eX12_isDive_37, eX12_isDive_0_15, eX12_isDive_38, eX12_isDive_83, eX12_isDive_38_7, eX12_isDive_84, eX12_isDive_38_12, eX12_isDive_38_17, c_in, h67]
  rcases px_in_01 a 0 (nI dm - 1) with h1 | h1
  · simp only [h1, px_bd_s, px_psh_s, px_psh_n, px_vb_s, px_ib_s, px_wb_s, px_bo_s, px_bo_n, Bool.cond_decide, cond_true, cond_false, ite_not, Bool.and_true, if_true, if_false, not_true_eq_false, not_false_eq_true, i10, eq_self, decide_true, decide_false, Bool.or_true, Bool.true_or, Bool.or_false, Bool.false_or]
  · rcases px_in_01 b 0 (nI dm - 1) with h2 | h2
    · simp only [h1, h2, px_bd_s, px_psh_s, px_psh_n, px_vb_s, px_ib_s, px_wb_s, px_bo_s, px_bo_n, Bool.cond_decide, cond_true, cond_false, ite_not, Bool.and_true, if_true, if_false, not_true_eq_false, not_false_eq_true, i10, eq_self, decide_true, decide_false, Bool.or_true, Bool.true_or, Bool.or_false, Bool.false_or]
    · by_cases h3 : a = b
      · simp only [h1, h2, if_pos h3, px_bd_s, px_psh_s, px_psh_n, px_vb_s, px_ib_s, px_wb_s, px_bo_s, px_bo_n, Bool.cond_decide, cond_true, cond_false, ite_not, Bool.and_true, if_true, if_false, not_true_eq_false, not_false_eq_true, i10, eq_self, decide_true, decide_false, Bool.or_true, Bool.true_or, Bool.or_false, Bool.false_or]
      · by_cases h4 : 0 ≤ t ∧ t ≤ 1439999
        · by_cases h5 : 1 ≤ v ∧ v ≤ 90
          · have h6 : ¬ (1 ≤ u ∧ u ≤ 200) := fun q => h ⟨h1, h2, h3, h4, h5, q⟩
            simp only [h1, h2, if_neg h3, px_in_1 h4, px_in_1 h5, px_in_00 h6, px_bd_s, px_psh_s, px_psh_n, px_vb_s, px_ib_s, px_wb_s, px_bo_s, px_bo_n, Bool.cond_decide, cond_true, cond_false, ite_not, Bool.and_true, if_true, if_false, not_true_eq_false, not_false_eq_true, i10, eq_self, decide_true, decide_false, Bool.or_true, Bool.true_or, Bool.or_false, Bool.false_or]
          · simp only [h1, h2, if_neg h3, px_in_1 h4, px_in_00 h5, px_bd_s, px_psh_s, px_psh_n, px_vb_s, px_ib_s, px_wb_s, px_bo_s, px_bo_n, Bool.cond_decide, cond_true, cond_false, ite_not, Bool.and_true, if_true, if_false, not_true_eq_false, not_false_eq_true, i10, eq_self, decide_true, decide_false, Bool.or_true, Bool.true_or, Bool.or_false, Bool.false_or]
        · simp only [h1, h2, if_neg h3, px_in_00 h4, px_bd_s, px_psh_s, px_psh_n, px_vb_s, px_ib_s, px_wb_s, px_bo_s, px_bo_n, Bool.cond_decide, cond_true, cond_false, ite_not, Bool.and_true, if_true, if_false, not_true_eq_false, not_false_eq_true, i10, eq_self, decide_true, decide_false, Bool.or_true, Bool.true_or, Bool.or_false, Bool.false_or]
/-- the rest of a depth, by the class's rows and by the model's -/
theorem rsf_eq {rn : Nat} (hR : rn ≤ 8 ∧ M 32 1 = nI rn ∧ M 67 26 = nI rn ∧ ∀ k, k < rn → M 33 k = M 87 k ∧ M 34 k = M 88 k ∧ M 35 k = M 89 k ∧ ∃ r, 1 ≤ r ∧ r ≤ 1440 ∧ M 89 k = nI r) (v : Int32) : fr (M 33) v rn 0 = fr (M 87) v rn 0 ∧ rsf (M 33) (M 35) rn v = rsf (M 87) (M 89) rn v := by
  have e : fr (M 33) v rn 0 = fr (M 87) v rn 0 := fr_c v rn 0 (fun i _ hi => (hR.2.2.2 i (by omega)).1)
  refine ⟨e, ?_⟩
  unfold rsf
  rw [e]
  by_cases h : fr (M 87) v rn 0 < rn
  · rw [if_pos h, if_pos h]
    exact (hR.2.2.2 _ h).2.2.1
  · rw [if_neg h, if_neg h]
/-- the class's answer of the times, in the model's words -/
theorem c_timeRf {n rn : Nat} {Q : Nat → Nat} (hI : IDn n Q (M 32 2) (M 67 30) (R 36) D (M 90) (M 91) (M 92) (M 93) (M 94)) (hR : rn ≤ 8 ∧ M 32 1 = nI rn ∧ M 67 26 = nI rn ∧ ∀ k, k < rn → M 33 k = M 87 k ∧ M 34 k = M 88 k ∧ M 35 k = M 89 k ∧ ∃ r, 1 ≤ r ∧ r ≤ 1440 ∧ M 89 k = nI r) (a b v : Int32) {t m : Int32} {tt mm : Nat} (ht : t = nI tt) (hm : m = nI mm) (htt : tt < 2 ^ 29) (hmm : mm ≤ 200) : px_ex px_tab (d + 4) 14 [Value.ref (32), Value.int (a), Value.int (b), Value.int (t), Value.int (m), Value.int (rsf (M 33) (M 35) rn v)] (hp (M) (J) (R) (c) (e) nL xs (D)) = some (some (Value.int (trm (cl (ofB (M 90) (M 91) a b) (mtB (M 92) (M 94) t m) (nrM (M 92) (M 93) (M 94) (rsf (M 87) (M 89) rn) t m (rsf (M 87) (M 89) rn v)) n 0 false) (ac (fun k => if (M 90 k = a ∨ M 91 k = a) ∧ M 92 k / 1440 = t / 1440 then M 94 k else 0) n 0 0) (ac (fun k => if (M 90 k = b ∨ M 91 k = b) ∧ M 92 k / 1440 = t / 1440 then M 94 k else 0) n 0 0) m)), (hp (M) (J) (R) (c) (e) nL xs (D))) := by
  have hn := hI.1
  rw [c_timeRefusal _ _ _ _ _ _ _ _ _ hI hR.1 hR.2.1]
  have ecl : cl (ofB (M 90) (M 91) a b) (mtB (M 92) (M 94) t m) (nrB (M 92) (M 93) (M 94) (rsf (M 33) (M 35) rn) t m (rsf (M 33) (M 35) rn v)) n 0 false = (cl (ofB (M 90) (M 91) a b) (mtB (M 92) (M 94) t m) (nrM (M 92) (M 93) (M 94) (rsf (M 87) (M 89) rn) t m (rsf (M 87) (M 89) rn v)) n 0 false) := by
    apply cl_c
    intro i _ hi
    refine ⟨rfl, fun _ => ⟨rfl, fun hmt => ?_⟩⟩
    obtain ⟨a1, a2, ⟨s, hs, es⟩, ⟨l, hl1, hl2, el⟩⟩ := hI.2.2.2 i (by omega)
    subst ht
    subst hm
    exact nr_eq es el (by omega) (by omega) htt (by omega) (rsf_eq M hR _).2 (rsf_eq M hR _).2 hmt
  rw [ecl]
  have hsum : ∀ x, ∃ S, S ≤ 8000 ∧ ac (fun k => if (M 90 k = x ∨ M 91 k = x) ∧ M 92 k / 1440 = t / 1440 then M 94 k else 0) n 0 0 = nI S := by
    intro x
    have hc : ac (fun k => if (M 90 k = x ∨ M 91 k = x) ∧ M 92 k / 1440 = t / 1440 then M 94 k else 0) n 0 0 = ac (fun k => if k < n then (if (M 90 k = x ∨ M 91 k = x) ∧ M 92 k / 1440 = t / 1440 then M 94 k else 0) else 0) n 0 0 := by
      apply ac_c
      intro i _ hi
      rw [if_pos (show i < n by omega)]
    obtain ⟨S, h1, h2⟩ := ac_200 (f := fun k => if k < n then (if (M 90 k = x ∨ M 91 k = x) ∧ M 92 k / 1440 = t / 1440 then M 94 k else 0) else 0) (fun k => by
      by_cases hk : k < n
      · rw [if_pos hk]
        obtain ⟨a1, a2, a3, ⟨l, hl1, hl2, el⟩⟩ := hI.2.2.2 k hk
        split
        · exact ⟨l, hl2, el⟩
        · exact ⟨0, by decide, rfl⟩
      · rw [if_neg hk]
        exact ⟨0, by decide, rfl⟩) n 0 0
    refine ⟨S, by omega, ?_⟩
    rw [nI_0, Nat.zero_add] at h2
    rw [hc, h2]
  obtain ⟨wa, ha1, ha2⟩ := hsum a
  obtain ⟨wb, hb1, hb2⟩ := hsum b
  rw [ha2, hb2, hm, trf_trm ha1 hb1 hmm]
/-- why a dive is refused -/
def rfz (M : Nat → Nat → Int32) (n rn : Nat) (a b t v m : Int32) : Int32 := if fr (M 87) v rn 0 < rn then (if m ≤ M 88 (fr (M 87) v rn 0) then trm (cl (ofB (M 90) (M 91) a b) (mtB (M 92) (M 94) t m) (nrM (M 92) (M 93) (M 94) (rsf (M 87) (M 89) rn) t m (rsf (M 87) (M 89) rn v)) n 0 false) (ac (fun k => if (M 90 k = a ∨ M 91 k = a) ∧ M 92 k / 1440 = t / 1440 then M 94 k else 0) n 0 0) (ac (fun k => if (M 90 k = b ∨ M 91 k = b) ∧ M 92 k / 1440 = t / 1440 then M 94 k else 0) n 0 0) m else 2) else 1
theorem c_refusal {n rn : Nat} {Q : Nat → Nat} (hI : IDn n Q (M 32 2) (M 67 30) (R 36) D (M 90) (M 91) (M 92) (M 93) (M 94)) (hR : rn ≤ 8 ∧ M 32 1 = nI rn ∧ M 67 26 = nI rn ∧ ∀ k, k < rn → M 33 k = M 87 k ∧ M 34 k = M 88 k ∧ M 35 k = M 89 k ∧ ∃ r, 1 ≤ r ∧ r ≤ 1440 ∧ M 89 k = nI r) (a b v : Int32) {t m : Int32} {tt mm : Nat} (ht : t = nI tt) (hm : m = nI mm) (htt : tt < 2 ^ 29) (hmm : mm ≤ 200) : px_ex px_tab (d + 5) 12 [Value.ref (32), Value.int (a), Value.int (b), Value.int (t), Value.int (v), Value.int (m)] (hp (M) (J) (R) (c) (e) nL xs (D)) = some (some (Value.int (rfz M n rn a b t v m)), (hp (M) (J) (R) (c) (e) nL xs (D))) := by
  have hq := fr_le (M 87) v rn 0
  have e0 := (rsf_eq M hR v).1
  have cr := c_restAfter (d + 2) M J R c e nL xs D hR.1 hR.2.1 v
  rw [show (if fr (M 33) v rn 0 < rn then M 35 (fr (M 33) v rn 0) else 0) = rsf (M 33) (M 35) rn v from rfl] at cr
  rw [xX1_refusal]
  simp only [px_bd_s, px_psh_s, px_psh_n, px_vb_s, px_ib_s, px_wb_s, px_bo_s, px_bo_n, Bool.cond_decide, cond_true, cond_false, ite_not, Bool.and_true, if_true, if_false, not_true_eq_false, not_false_eq_true, i10, eq_self, decide_true, decide_false, Bool.or_true, Bool.true_or, Bool.or_false, Bool.false_or, eX1_refusal_0, eX1_refusal_0_4, eX1_refusal_20, eX1_refusal_35, eX1_refusal_20_9, eX1_refusal_20_8, c_tableRefusal (d + 2) _ _ _ _ _ _ _ _ hR.1 hR.2.1, e0, cr, c_timeRf _ _ _ _ _ _ _ _ _ hI hR a b v ht hm htt hmm]
  unfold rfz
  by_cases h : fr (M 87) v rn 0 < rn
  · simp only [if_pos h]
    rw [show M 34 (fr (M 87) v rn 0) = M 88 (fr (M 87) v rn 0) from (hR.2.2.2 _ h).2.1]
    by_cases h2 : m ≤ M 88 (fr (M 87) v rn 0)
    · simp only [if_pos h2, px_bd_s, px_psh_s, px_psh_n, px_vb_s, px_ib_s, px_wb_s, px_bo_s, px_bo_n, Bool.cond_decide, cond_true, cond_false, ite_not, Bool.and_true, if_true, if_false, not_true_eq_false, not_false_eq_true, i10, eq_self, decide_true, decide_false, Bool.or_true, Bool.true_or, Bool.or_false, Bool.false_or]
    · simp only [if_neg h2, px_bd_s, px_psh_s, px_psh_n, px_vb_s, px_ib_s, px_wb_s, px_bo_s, px_bo_n, Bool.cond_decide, cond_true, cond_false, ite_not, Bool.and_true, if_true, if_false, not_true_eq_false, not_false_eq_true, i10, eq_self, decide_true, decide_false, Bool.or_true, Bool.true_or, Bool.or_false, Bool.false_or, show ¬ (2 : Int32) = 0 from by decide]
  · simp only [if_neg h, px_bd_s, px_psh_s, px_psh_n, px_vb_s, px_ib_s, px_wb_s, px_bo_s, px_bo_n, Bool.cond_decide, cond_true, cond_false, ite_not, Bool.and_true, if_true, if_false, not_true_eq_false, not_false_eq_true, i10, eq_self, decide_true, decide_false, Bool.or_true, Bool.true_or, Bool.or_false, Bool.false_or]
theorem m_refused {n rn : Nat} (hn : n ≤ 40) (h67 : M 67 30 = nI n) (hrn : rn ≤ 8) (hr67 : M 67 26 = nI rn) (a b t v m : Int32) : px_ex px_tab (d + 4) 201 [Value.ref (67), Value.int (a), Value.int (b), Value.int (t), Value.int (v), Value.int (m)] (hp (M) (J) (R) (c) (e) nL xs (D)) = some (some (Value.int (rfz M n rn a b t v m)), (hp (M) (J) (R) (c) (e) nL xs (D))) := by
  have hq := fr_le (M 87) v rn 0
  rw [xX12_refused]
  simp only [px_bd_s, px_psh_s, px_psh_n, px_vb_s, px_ib_s, px_wb_s, px_bo_s, px_bo_n, Bool.cond_decide, cond_true, cond_false, ite_not, Bool.and_true, if_true, if_false, not_true_eq_false, not_false_eq_true, i10, eq_self, decide_true, decide_false, Bool.or_true, Bool.true_or, Bool.or_false, Bool.false_or, eX12_refused_0, eX12_refused_0_3, eX12_refused_16, eX12_refused_32_7, eX12_refused_32, eX12_refused_43, m_rowOf (d + 2) _ _ _ _ _ _ _ _ hrn hr67, m_clashes _ _ _ _ _ _ _ _ _ hn h67 hrn hr67]
  unfold rfz
  by_cases h : fr (M 87) v rn 0 < rn
  · simp (disch := omega) only [if_pos h, nI_n1, px_inbT, nI_clamp, px_bd_s, px_psh_s, px_psh_n, px_vb_s, px_ib_s, px_wb_s, px_bo_s, px_bo_n, Bool.cond_decide, cond_true, cond_false, ite_not, Bool.and_true, if_true, if_false, not_true_eq_false, not_false_eq_true, i10, eq_self, decide_true, decide_false, Bool.or_true, Bool.true_or, Bool.or_false, Bool.false_or]
    split <;> rfl
  · simp only [if_neg h, px_bd_s, px_psh_s, px_psh_n, px_vb_s, px_ib_s, px_wb_s, px_bo_s, px_bo_n, Bool.cond_decide, cond_true, cond_false, ite_not, Bool.and_true, if_true, if_false, not_true_eq_false, not_false_eq_true, i10, eq_self, decide_true, decide_false, Bool.or_true, Bool.true_or, Bool.or_false, Bool.false_or]
theorem t_dive (hD : IDr M) (hW : IRw M) (hI : IDv M R D) (a b t v u : Int32) : ∃ w M1 R1 D1 M2, px_ex px_tab (d + 6) 141 [Value.ref (13), Value.int (a), Value.int (b), Value.int (t), Value.int (v), Value.int (u)] (hp (M) (J) (R) (c) (e) nL xs (D)) = some (some (Value.int (w)), (hp (M1) (J) (R1) (c) (e) nL xs (D1))) ∧ px_ex px_tab (d + 6) 204 [Value.ref (67), Value.int (a), Value.int (b), Value.int (t), Value.int (v), Value.int (u)] (hp (M1) (J) (R1) (c) (e) nL xs (D1)) = some (some (Value.int (w)), (hp (M2) (J) (R1) (c) (e) nL xs (D1))) ∧ IDv M2 R1 D1 ∧ frm [32, 90, 91, 92, 93, 94] [30] M M2 ∧ M2 32 0 = M 32 0 ∧ M2 32 1 = M 32 1 ∧ R1 29 = R 29 ∧ (∀ p F H, fdAt D p F H → fdAt D1 p F H) ∧ grow D D1 := by
  obtain ⟨dm, hm6, e32, e67⟩ := hD
  obtain ⟨rn, hR⟩ := hW
  obtain ⟨n, Q, hI⟩ := hI
  have hn := hI.1
  by_cases hk : askd dm a b t v u
  · obtain ⟨tt, htt, rfl⟩ := nI_of2 (x := t) (M := 1439999) (n := 1439999) (by decide) (Int32.not_lt.mpr hk.2.2.2.1.1) hk.2.2.2.1.2
    have hu1 : ∃ mm, 1 ≤ mm ∧ mm ≤ 200 ∧ u = nI mm := by
      obtain ⟨r, hr, rfl⟩ := nI_of2 (x := u) (M := 200) (n := 200) (by decide) (fun q => Int32.not_lt.mpr hk.2.2.2.2.2.1 (Int32.lt_of_lt_of_le q (by decide))) hk.2.2.2.2.2.2
      exact ⟨r, (za1 (by omega)).mp hk.2.2.2.2.2.1, hr, rfl⟩
    obtain ⟨mm, hmm1, hmm, rfl⟩ := hu1
    have cr := c_refusal d M J R c e nL xs D hI hR a b v (t := nI tt) (m := nI mm) rfl rfl (by omega) hmm
    by_cases h0 : rfz M n rn a b (nI tt) v (nI mm) = 0
    · rw [h0] at cr
      by_cases h40 : n = 40
      · subst h40
        refine ⟨-4, M, R, D, M, ?_, ?_, ⟨40, Q, hI⟩, frm.rf _ _ _, rfl, rfl, rfl, fun _ _ _ h => h, grow.rf _⟩
        · rw [xX11_dive]
          simp only [px_bd_s, px_psh_s, px_psh_n, px_vb_s, px_ib_s, px_wb_s, px_bo_s, px_bo_n, Bool.cond_decide, cond_true, cond_false, ite_not, Bool.and_true, if_true, if_false, not_true_eq_false, not_false_eq_true, i10, eq_self, decide_true, decide_false, Bool.or_true, Bool.true_or, Bool.or_false, Bool.false_or, eX11_dive_0, eX11_dive_0_8, eX11_dive_20, eX11_dive_20_8, eX11_dive_47, eX11_dive_47_8, c_can_y (d + 3) _ _ _ _ _ _ _ _ hm6 e32 hk, cr, xX1_addDive, fX1_addDive_0, hI.2.1, show ¬ nI 40 < 40 from by decide]
        · rw [xX12_dive]
          simp only [px_bd_s, px_psh_s, px_psh_n, px_vb_s, px_ib_s, px_wb_s, px_bo_s, px_bo_n, Bool.cond_decide, cond_true, cond_false, ite_not, Bool.and_true, if_true, if_false, not_true_eq_false, not_false_eq_true, i10, eq_self, decide_true, decide_false, Bool.or_true, Bool.true_or, Bool.or_false, Bool.false_or, eX12_dive_0, eX12_dive_0_7, eX12_dive_17, eX12_dive_17_7, eX12_dive_41, m_isDive_y (d + 3) _ _ _ _ _ _ _ _ e67 hk, m_refused (d + 1) _ _ _ _ _ _ _ _ hn hI.2.2.1 hR.1 hR.2.2.1, h0, hI.2.2.1, show nI 40 = 40 from rfl]
      · refine ⟨nI n, px_uR M 32 (upd (M 32) 2 (nI (n + 1))), px_uQ R 36 (va_up (R 36) n (some (111 + D.length))), D ++ [.inr (0, [.int a, .int b, .int (nI tt), .int v, .int (nI mm)])], px_uR (px_uR (px_uR (px_uR (px_uR (px_uR (px_uR M 32 (upd (M 32) 2 (nI (n + 1)))) 90 (upd (M 90) n a)) 91 (upd (M 91) n b)) 92 (upd (M 92) n (nI tt))) 93 (upd (M 93) n v)) 94 (upd (M 94) n (nI mm))) 67 (upd (M 67) 30 (nI (n + 1))), ?_, ?_, ?_, ?_, rfl, rfl, rfl, fun _ _ _ h => fdAt_app h, ?_⟩
        · rw [xX11_dive]
          simp only [px_bd_s, px_psh_s, px_psh_n, px_vb_s, px_ib_s, px_wb_s, px_bo_s, px_bo_n, Bool.cond_decide, cond_true, cond_false, ite_not, Bool.and_true, if_true, if_false, not_true_eq_false, not_false_eq_true, i10, eq_self, decide_true, decide_false, Bool.or_true, Bool.true_or, Bool.or_false, Bool.false_or, eX11_dive_0, eX11_dive_0_8, eX11_dive_20, eX11_dive_20_8, eX11_dive_47, eX11_dive_47_8, c_can_y (d + 3) _ _ _ _ _ _ _ _ hm6 e32 hk, cr, c_addDive (d + 3) _ _ _ _ _ _ _ _ (show n < 40 by omega) hI.2.1]
        · have mr := m_refused (d + 1) (px_uR M 32 (upd (M 32) 2 (nI (n + 1)))) J (px_uQ R 36 (va_up (R 36) n (some (111 + D.length)))) c e nL xs (D ++ [.inr (0, [.int a, .int b, .int (nI tt), .int v, .int (nI mm)])]) hn hI.2.2.1 hR.1 hR.2.2.1 a b (nI tt) v (nI mm)
          rw [show rfz (px_uR M 32 (upd (M 32) 2 (nI (n + 1)))) n rn a b (nI tt) v (nI mm) = rfz M n rn a b (nI tt) v (nI mm) from rfl, h0] at mr
          have e1 : (px_uR M 32 (upd (M 32) 2 (nI (n + 1)))) 67 30 = nI n := hI.2.2.1
          rw [xX12_dive]
          simp (disch := omega) only [px_bd_s, px_psh_s, px_psh_n, px_vb_s, px_ib_s, px_wb_s, px_bo_s, px_bo_n, Bool.cond_decide, cond_true, cond_false, ite_not, Bool.and_true, if_true, if_false, not_true_eq_false, not_false_eq_true, i10, eq_self, decide_true, decide_false, Bool.or_true, Bool.true_or, Bool.or_false, Bool.false_or, eX12_dive_0, eX12_dive_0_7, eX12_dive_17, eX12_dive_17_7, eX12_dive_41, eX12_dive_53, m_isDive_y (d + 3) (px_uR M 32 (upd (M 32) 2 (nI (n + 1)))) _ _ _ _ _ _ _ e67 hk, mr, e1, ze40, if_neg, px_inbT, nI_clamp, nI_1, nI_pred]
          rfl
        · refine ⟨n + 1, fun k => if k = n then D.length else Q k, by omega, rfl, rfl, fun k hk => ?_⟩
          dsimp only
          by_cases h1 : k = n
          · subst h1
            rw [if_pos rfl]
            refine ⟨va_up_self _ _ _, ?_, ?_, ?_⟩
            · unfold dvAt
              rw [get_mid]
              show some (Sum.inr (0, [Value.int a, Value.int b, Value.int (nI tt), Value.int v, Value.int (nI mm)])) = some (Sum.inr (0, [Value.int (upd (M 90) k a k), Value.int (upd (M 91) k b k), Value.int (upd (M 92) k (nI tt) k), Value.int (upd (M 93) k v k), Value.int (upd (M 94) k (nI mm) k)]))
              rw [pk_us, pk_us, pk_us, pk_us, pk_us]
            · exact ⟨tt, by omega, pk_us⟩
            · exact ⟨mm, hmm1, hmm, pk_us⟩
          · rw [if_neg h1]
            obtain ⟨a1, a2, a3, a4⟩ := hI.2.2.2 k (by omega)
            refine ⟨(va_up_ne _ _ h1).trans a1, ?_, ?_, ?_⟩
            · have : dvV (upd (M 90) n a) (upd (M 91) n b) (upd (M 92) n (nI tt)) (upd (M 93) n v) (upd (M 94) n (nI mm)) k = dvV (M 90) (M 91) (M 92) (M 93) (M 94) k := by
                funext j
                unfold dvV
                rw [pk_un h1, pk_un h1, pk_un h1, pk_un h1, pk_un h1]
              show dvAt _ _ (dvV (upd (M 90) n a) (upd (M 91) n b) (upd (M 92) n (nI tt)) (upd (M 93) n v) (upd (M 94) n (nI mm)) k)
              rw [this]
              exact dvAt_app a2
            · obtain ⟨s, hs, es⟩ := a3
              exact ⟨s, hs, (pk_un h1).trans es⟩
            · obtain ⟨l, hl1, hl2, el⟩ := a4
              exact ⟨l, hl1, hl2, (pk_un h1).trans el⟩
        · exact (((((((frm.rf _ _ _).u 32 _ (by decide) (by decide)).u 90 _ (by decide) (by decide)).u 91 _ (by decide) (by decide)).u 92 _ (by decide) (by decide)).u 93 _ (by decide) (by decide)).u 94 _ (by decide) (by decide)).k 30 _ (by decide)
        · constructor
          · rw [List.length_append]
            exact Nat.add_le_add_left (by decide : (1 : Nat) ≤ 2) _
          · rw [px_sz_app]
            exact Nat.add_le_add_left (Nat.le_of_ble_eq_true rfl) _
    · refine ⟨-20 - rfz M n rn a b (nI tt) v (nI mm), M, R, D, M, ?_, ?_, ⟨n, Q, hI⟩, frm.rf _ _ _, rfl, rfl, rfl, fun _ _ _ h => h, grow.rf _⟩
      · rw [xX11_dive]
        simp only [px_bd_s, px_psh_s, px_psh_n, px_vb_s, px_ib_s, px_wb_s, px_bo_s, px_bo_n, Bool.cond_decide, cond_true, cond_false, ite_not, Bool.and_true, if_true, if_false, not_true_eq_false, not_false_eq_true, i10, eq_self, decide_true, decide_false, Bool.or_true, Bool.true_or, Bool.or_false, Bool.false_or, eX11_dive_0, eX11_dive_0_8, eX11_dive_20, eX11_dive_20_8, eX11_dive_47, eX11_dive_47_8, c_can_y (d + 3) _ _ _ _ _ _ _ _ hm6 e32 hk, cr, h0]
      · rw [xX12_dive]
        simp only [px_bd_s, px_psh_s, px_psh_n, px_vb_s, px_ib_s, px_wb_s, px_bo_s, px_bo_n, Bool.cond_decide, cond_true, cond_false, ite_not, Bool.and_true, if_true, if_false, not_true_eq_false, not_false_eq_true, i10, eq_self, decide_true, decide_false, Bool.or_true, Bool.true_or, Bool.or_false, Bool.false_or, eX12_dive_0, eX12_dive_0_7, eX12_dive_17, eX12_dive_17_7, m_isDive_y (d + 3) _ _ _ _ _ _ _ _ e67 hk, m_refused (d + 1) _ _ _ _ _ _ _ _ hn hI.2.2.1 hR.1 hR.2.2.1, h0]
  · refine ⟨-2, M, R, D, M, ?_, ?_, ⟨n, Q, hI⟩, frm.rf _ _ _, rfl, rfl, rfl, fun _ _ _ h => h, grow.rf _⟩
    · rw [xX11_dive]
      simp only [px_bd_s, px_psh_s, px_psh_n, px_vb_s, px_ib_s, px_wb_s, px_bo_s, px_bo_n, Bool.cond_decide, cond_true, cond_false, ite_not, Bool.and_true, if_true, if_false, not_true_eq_false, not_false_eq_true, i10, eq_self, decide_true, decide_false, Bool.or_true, Bool.true_or, Bool.or_false, Bool.false_or, eX11_dive_0, eX11_dive_0_8, eX11_dive_20, eX11_dive_20_8, eX11_dive_47, eX11_dive_47_8, c_can_n (d + 3) _ _ _ _ _ _ _ _ hm6 e32 hk]
    · rw [xX12_dive]
      simp only [px_bd_s, px_psh_s, px_psh_n, px_vb_s, px_ib_s, px_wb_s, px_bo_s, px_bo_n, Bool.cond_decide, cond_true, cond_false, ite_not, Bool.and_true, if_true, if_false, not_true_eq_false, not_false_eq_true, i10, eq_self, decide_true, decide_false, Bool.or_true, Bool.true_or, Bool.or_false, Bool.false_or, eX12_dive_0, eX12_dive_0_7, m_isDive_n (d + 3) _ _ _ _ _ _ _ _ e67 hk]
end S37
