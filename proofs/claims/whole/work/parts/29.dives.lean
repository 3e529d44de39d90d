/-! PART 29: DIVES: the minutes on a day, what refuses a dive -/
def dvV (A B S P L : Nat → Int32) (k : Nat) : Nat → Int32 := fun j => match j with
  | 0 => A k
  | 1 => B k
  | 2 => S k
  | 3 => P k
  | 4 => L k
  | _ => 0
def IDn (n : Nat) (Q : Nat → Nat) (n32 n67 : Int32) (R36 : Nat → Option Nat) (D : px_H) (A B S P L : Nat → Int32) : Prop := n ≤ 40 ∧ n32 = nI n ∧ n67 = nI n ∧ ∀ k, k < n → R36 k = some (111 + Q k) ∧ dvAt D (Q k) (dvV A B S P L k) ∧ (∃ s, s < 1440000 ∧ S k = nI s) ∧ (∃ m, 1 ≤ m ∧ m ≤ 200 ∧ L k = nI m)
def IDv (M : Nat → Nat → Int32) (R : Nat → Nat → Option Nat) (D : px_H) : Prop := ∃ n Q, IDn n Q (M 32 2) (M 67 30) (R 36) D (M 90) (M 91) (M 92) (M 93) (M 94)
theorem IDv.fr {S K : List Nat} {M M' : Nat → Nat → Int32} {R R' : Nat → Nat → Option Nat} {D D' : px_H} (hf : frm S K M M') (h32 : M' 32 2 = M 32 2) (hS : ∀ a ∈ [90, 91, 92, 93, 94], a ∉ S) (hK : 30 ∉ K) (hR : R' 36 = R 36) (hD : ∀ q V, dvAt D q V → dvAt D' q V) (h : IDv M R D) : IDv M' R' D' := by
  have e : ∀ a, a ≠ 67 → a ∈ [90, 91, 92, 93, 94] → M' a = M a := fun a h1 h2 => hf.1 a h1 (hS a h2)
  obtain ⟨n, Q, h1, h2, h3, h4⟩ := h
  refine ⟨n, Q, ?_⟩
  rw [h32, e 90 (by decide) (by decide), e 91 (by decide) (by decide), e 92 (by decide) (by decide), e 93 (by decide) (by decide), e 94 (by decide) (by decide), hf.2 30 hK, hR]
  refine ⟨h1, h2, h3, fun k hk => ?_⟩
  obtain ⟨a1, a2, a3⟩ := h4 k hk
  exact ⟨a1, hD _ _ a2, a3⟩
section S29
variable (d : Nat) (M : Nat → Nat → Int32) (J : Nat → Nat → Int64) (R : Nat → Nat → Option Nat) (c e nL : Nat) (xs : Nat → Int32) (D : px_H)
theorem c_end {q : Nat} {V : Nat → Int32} (h : dvAt D q V) : px_ex px_tab (d + 1) 1 [Value.ref (111 + q)] (hp (M) (J) (R) (c) (e) nL xs (D)) = some (some (Value.int (V 2 + V 4)), (hp (M) (J) (R) (c) (e) nL xs (D))) := by
  rw [xX0_end]
  simp only [px_bd_s, px_psh_s, px_psh_n, px_vb_s, px_ib_s, px_wb_s, px_bo_s, px_bo_n, Bool.cond_decide, cond_true, cond_false, ite_not, Bool.and_true, if_true, if_false, not_true_eq_false, not_false_eq_true, i10, eq_self, decide_true, decide_false, Bool.or_true, Bool.true_or, Bool.or_false, Bool.false_or, eX0_end_0, eX0_end_0_1, eX0_end_0_2, eX0_end_0_3, eX0_end_0_4, dv_g2 h, dv_g4 h]
theorem c_dhas {q : Nat} {V : Nat → Int32} (h : dvAt D q V) (v : Int32) : px_ex px_tab (d + 1) 2 [Value.ref (111 + q), Value.int (v)] (hp (M) (J) (R) (c) (e) nL xs (D)) = some (some (Value.int (if V 0 = v ∨ V 1 = v then 1 else 0)), (hp (M) (J) (R) (c) (e) nL xs (D))) := by
  rw [xX0_has]
  simp only [px_bd_s, px_psh_s, px_psh_n, px_vb_s, px_ib_s, px_wb_s, px_bo_s, px_bo_n, Bool.cond_decide, cond_true, cond_false, ite_not, Bool.and_true, if_true, if_false, not_true_eq_false, not_false_eq_true, i10, eq_self, decide_true, decide_false, Bool.or_true, Bool.true_or, Bool.or_false, Bool.false_or, eX0_has_0, eX0_has_0_1, eX0_has_0_2, eX0_has_16, eX0_has_0_5, eX0_has_21, eX0_has_0_6, eX0_has_20, dv_g0 h, dv_g1 h]
  by_cases h1 : V 0 = v
  · simp [h1]
  · by_cases h2 : V 1 = v <;> simp [h1, h2]
theorem c_meets {q : Nat} {V : Nat → Int32} (h : dvAt D q V) (v u : Int32) : px_ex px_tab (d + 2) 3 [Value.ref (111 + q), Value.int (v), Value.int (u)] (hp (M) (J) (R) (c) (e) nL xs (D)) = some (some (Value.int (if u < V 2 ∨ V 2 + V 4 < v then 0 else 1)), (hp (M) (J) (R) (c) (e) nL xs (D))) := by
  rw [xX0_meets]
  simp only [px_bd_s, px_psh_s, px_psh_n, px_vb_s, px_ib_s, px_wb_s, px_bo_s, px_bo_n, Bool.cond_decide, cond_true, cond_false, ite_not, Bool.and_true, if_true, if_false, not_true_eq_false, not_false_eq_true, i10, eq_self, decide_true, decide_false, Bool.or_true, Bool.true_or, Bool.or_false, Bool.false_or, eX0_meets_0, eX0_meets_0_1, eX0_meets_0_2, eX0_meets_20, eX0_meets_0_6, eX0_meets_21, eX0_meets_0_7, dv_g2 h, dv_isc h, c_end _ _ _ _ _ _ _ _ _ h]
  by_cases h1 : u < V 2
  · simp [h1]
  · by_cases h2 : V 2 + V 4 < v <;> simp [h1, h2]
theorem c_min_l {n : Nat} {Q : Nat → Nat} (hI : IDn n Q (M 32 2) (M 67 30) (R 36) D (M 90) (M 91) (M 92) (M 93) (M 94)) (v y : Int32) : ∀ (g k : Nat) (a : Int32), k + g = n → px_run (px_mk (kX1_minutesOn (px_ex px_tab (d + 1)))) 5 ([some (.ref 32), some (.int v), some (.int y), some (.int a), some (.int (nI k)), none], [], (hp M J R c e nL xs D)) = some (some (Value.int (ac (fun k => if (M 90 k = v ∨ M 91 k = v) ∧ M 92 k / 1440 = y then M 94 k else 0) g k a)), (hp (M) (J) (R) (c) (e) nL xs (D)))
  | 0, k, a, hk => by
    have hn := hI.1
    rw [eX1_minutesOn_5]
    simp (disch := omega) only [px_bd_s, px_psh_s, px_psh_n, px_vb_s, px_ib_s, px_wb_s, px_bo_s, px_bo_n, Bool.cond_decide, cond_true, cond_false, ite_not, Bool.and_true, if_true, if_false, not_true_eq_false, not_false_eq_true, i10, eq_self, decide_true, decide_false, Bool.or_true, Bool.true_or, Bool.or_false, Bool.false_or, za0, zb0, zc0, zd0, ze0, zf0, za1, zb1, zc1, zd1, ze1, zf1, za2, zb2, zc2, zd2, ze2, zf2, za3, zb3, zc3, zd3, ze3, zf3, za4, zb4, zc4, zd4, ze4, zf4, za5, zb5, zc5, zd5, ze5, zf5, za6, zb6, zc6, zd6, ze6, zf6, za7, zb7, zc7, zd7, ze7, zf7, za8, zb8, zc8, zd8, ze8, zf8, za9, zb9, zc9, zd9, ze9, zf9, za10, zb10, zc10, zd10, ze10, zf10, za20, zb20, zc20, zd20, ze20, zf20, za24, zb24, zc24, zd24, ze24, zf24, za39, zb39, zc39, zd39, ze39, zf39, za40, zb40, zc40, zd40, ze40, zf40, za50, zb50, zc50, zd50, ze50, zf50, za51, zb51, zc51, zd51, ze51, zf51, za60, zb60, zc60, zd60, ze60, zf60, za90, zb90, zc90, zd90, ze90, zf90, za99, zb99, zc99, zd99, ze99, zf99, za100, zb100, zc100, zd100, ze100, zf100, za101, zb101, zc101, zd101, ze101, zf101, za120, zb120, zc120, zd120, ze120, zf120, za160, zb160, zc160, zd160, ze160, zf160, za200, zb200, zc200, zd200, ze200, zf200, za400, zb400, zc400, zd400, ze400, zf400, za999, zb999, zc999, zd999, ze999, zf999, za1000, zb1000, zc1000, zd1000, ze1000, zf1000, za1440, zb1440, zc1440, zd1440, ze1440, zf1440, zp1, zp2, zp3, zp8, zp40, zq8, zq10, zq40, nI_leI, nI_ltI, nI_eq, px_inbT, nI_clamp, nI_add, pk_m1, if_pos, if_neg, hI.2.1, eX1_minutesOn_64]
    rfl
  | g + 1, k, a, hk => by
    have hn := hI.1
    obtain ⟨h1, h2, h3⟩ := hI.2.2.2 k (by omega)
    rw [eX1_minutesOn_5]
    simp (disch := omega) only [px_bd_s, px_psh_s, px_psh_n, px_vb_s, px_ib_s, px_wb_s, px_bo_s, px_bo_n, Bool.cond_decide, cond_true, cond_false, ite_not, Bool.and_true, if_true, if_false, not_true_eq_false, not_false_eq_true, i10, eq_self, decide_true, decide_false, Bool.or_true, Bool.true_or, Bool.or_false, Bool.false_or, za0, zb0, zc0, zd0, ze0, zf0, za1, zb1, zc1, zd1, ze1, zf1, za2, zb2, zc2, zd2, ze2, zf2, za3, zb3, zc3, zd3, ze3, zf3, za4, zb4, zc4, zd4, ze4, zf4, za5, zb5, zc5, zd5, ze5, zf5, za6, zb6, zc6, zd6, ze6, zf6, za7, zb7, zc7, zd7, ze7, zf7, za8, zb8, zc8, zd8, ze8, zf8, za9, zb9, zc9, zd9, ze9, zf9, za10, zb10, zc10, zd10, ze10, zf10, za20, zb20, zc20, zd20, ze20, zf20, za24, zb24, zc24, zd24, ze24, zf24, za39, zb39, zc39, zd39, ze39, zf39, za40, zb40, zc40, zd40, ze40, zf40, za50, zb50, zc50, zd50, ze50, zf50, za51, zb51, zc51, zd51, ze51, zf51, za60, zb60, zc60, zd60, ze60, zf60, za90, zb90, zc90, zd90, ze90, zf90, za99, zb99, zc99, zd99, ze99, zf99, za100, zb100, zc100, zd100, ze100, zf100, za101, zb101, zc101, zd101, ze101, zf101, za120, zb120, zc120, zd120, ze120, zf120, za160, zb160, zc160, zd160, ze160, zf160, za200, zb200, zc200, zd200, ze200, zf200, za400, zb400, zc400, zd400, ze400, zf400, za999, zb999, zc999, zd999, ze999, zf999, za1000, zb1000, zc1000, zd1000, ze1000, zf1000, za1440, zb1440, zc1440, zd1440, ze1440, zf1440, zp1, zp2, zp3, zp8, zp40, zq8, zq10, zq40, nI_leI, nI_ltI, nI_eq, px_inbT, nI_clamp, nI_add, pk_m1, if_pos, if_neg, hI.2.1, h1, eX1_minutesOn_64, eX1_minutesOn_58, eX1_minutesOn_5_13, eX1_minutesOn_5_14, eX1_minutesOn_5_16, eX1_minutesOn_5_17, eX1_minutesOn_5_23, eX1_minutesOn_5_24, dv_isc h2, c_dhas _ _ _ _ _ _ _ _ _ h2, dv_g2 h2, dv_g4 h2, c_min_l hI v y g]
    rw [show dvV (M 90) (M 91) (M 92) (M 93) (M 94) k 0 = M 90 k from rfl, show dvV (M 90) (M 91) (M 92) (M 93) (M 94) k 1 = M 91 k from rfl, show dvV (M 90) (M 91) (M 92) (M 93) (M 94) k 2 = M 92 k from rfl, show dvV (M 90) (M 91) (M 92) (M 93) (M 94) k 4 = M 94 k from rfl]
    rw [ac_s]
    by_cases a1 : M 90 k = v ∨ M 91 k = v
    · by_cases a2 : M 92 k / 1440 = y
      · simp [a1, a2]
      · simp [a1, a2]
    · simp [a1]
theorem c_minutesOn {n : Nat} {Q : Nat → Nat} (hI : IDn n Q (M 32 2) (M 67 30) (R 36) D (M 90) (M 91) (M 92) (M 93) (M 94)) (v y : Int32) : px_ex px_tab (d + 2) 16 [Value.ref (32), Value.int (v), Value.int (y)] (hp (M) (J) (R) (c) (e) nL xs (D)) = some (some (Value.int (ac (fun k => if (M 90 k = v ∨ M 91 k = v) ∧ M 92 k / 1440 = y then M 94 k else 0) n 0 0)), (hp (M) (J) (R) (c) (e) nL xs (D))) := by
  rw [xX1_minutesOn, eX1_minutesOn_0]
  exact c_min_l _ _ _ _ _ _ _ _ _ hI v y n 0 0 (by omega)
theorem m_min_l {n : Nat} (hn : n ≤ 40) (h67 : M 67 30 = nI n) (v y : Int32) : ∀ (g k : Nat) (a : Int32), k + g = n → px_run (px_mk (kX12_minutesOn (px_ex px_tab d))) 5 ([some (Value.ref (67)), some (Value.int (v)), some (Value.int (y)), some (Value.int (a)), some (Value.int (nI k))], [], (hp (M) (J) (R) (c) (e) nL xs (D))) = some (some (Value.int (ac (fun k => if (M 90 k = v ∨ M 91 k = v) ∧ M 92 k / 1440 = y then M 94 k else 0) g k a)), (hp (M) (J) (R) (c) (e) nL xs (D)))
  | 0, k, a, hk => by
    rw [eX12_minutesOn_5]
    simp (disch := omega) only [px_bd_s, px_psh_s, px_psh_n, px_vb_s, px_ib_s, px_wb_s, px_bo_s, px_bo_n, Bool.cond_decide, cond_true, cond_false, ite_not, Bool.and_true, if_true, if_false, not_true_eq_false, not_false_eq_true, i10, eq_self, decide_true, decide_false, Bool.or_true, Bool.true_or, Bool.or_false, Bool.false_or, za0, zb0, zc0, zd0, ze0, zf0, za1, zb1, zc1, zd1, ze1, zf1, za2, zb2, zc2, zd2, ze2, zf2, za3, zb3, zc3, zd3, ze3, zf3, za4, zb4, zc4, zd4, ze4, zf4, za5, zb5, zc5, zd5, ze5, zf5, za6, zb6, zc6, zd6, ze6, zf6, za7, zb7, zc7, zd7, ze7, zf7, za8, zb8, zc8, zd8, ze8, zf8, za9, zb9, zc9, zd9, ze9, zf9, za10, zb10, zc10, zd10, ze10, zf10, za20, zb20, zc20, zd20, ze20, zf20, za24, zb24, zc24, zd24, ze24, zf24, za39, zb39, zc39, zd39, ze39, zf39, za40, zb40, zc40, zd40, ze40, zf40, za50, zb50, zc50, zd50, ze50, zf50, za51, zb51, zc51, zd51, ze51, zf51, za60, zb60, zc60, zd60, ze60, zf60, za90, zb90, zc90, zd90, ze90, zf90, za99, zb99, zc99, zd99, ze99, zf99, za100, zb100, zc100, zd100, ze100, zf100, za101, zb101, zc101, zd101, ze101, zf101, za120, zb120, zc120, zd120, ze120, zf120, za160, zb160, zc160, zd160, ze160, zf160, za200, zb200, zc200, zd200, ze200, zf200, za400, zb400, zc400, zd400, ze400, zf400, za999, zb999, zc999, zd999, ze999, zf999, za1000, zb1000, zc1000, zd1000, ze1000, zf1000, za1440, zb1440, zc1440, zd1440, ze1440, zf1440, zp1, zp2, zp3, zp8, zp40, zq8, zq10, zq40, nI_leI, nI_ltI, nI_eq, px_inbT, nI_clamp, nI_add, pk_m1, if_pos, if_neg, h67, eX12_minutesOn_71]
    rfl
  | g + 1, k, a, hk => by
    rw [eX12_minutesOn_5]
    simp (disch := omega) only [px_bd_s, px_psh_s, px_psh_n, px_vb_s, px_ib_s, px_wb_s, px_bo_s, px_bo_n, Bool.cond_decide, cond_true, cond_false, ite_not, Bool.and_true, if_true, if_false, not_true_eq_false, not_false_eq_true, i10, eq_self, decide_true, decide_false, Bool.or_true, Bool.true_or, Bool.or_false, Bool.false_or, za0, zb0, zc0, zd0, ze0, zf0, za1, zb1, zc1, zd1, ze1, zf1, za2, zb2, zc2, zd2, ze2, zf2, za3, zb3, zc3, zd3, ze3, zf3, za4, zb4, zc4, zd4, ze4, zf4, za5, zb5, zc5, zd5, ze5, zf5, za6, zb6, zc6, zd6, ze6, zf6, za7, zb7, zc7, zd7, ze7, zf7, za8, zb8, zc8, zd8, ze8, zf8, za9, zb9, zc9, zd9, ze9, zf9, za10, zb10, zc10, zd10, ze10, zf10, za20, zb20, zc20, zd20, ze20, zf20, za24, zb24, zc24, zd24, ze24, zf24, za39, zb39, zc39, zd39, ze39, zf39, za40, zb40, zc40, zd40, ze40, zf40, za50, zb50, zc50, zd50, ze50, zf50, za51, zb51, zc51, zd51, ze51, zf51, za60, zb60, zc60, zd60, ze60, zf60, za90, zb90, zc90, zd90, ze90, zf90, za99, zb99, zc99, zd99, ze99, zf99, za100, zb100, zc100, zd100, ze100, zf100, za101, zb101, zc101, zd101, ze101, zf101, za120, zb120, zc120, zd120, ze120, zf120, za160, zb160, zc160, zd160, ze160, zf160, za200, zb200, zc200, zd200, ze200, zf200, za400, zb400, zc400, zd400, ze400, zf400, za999, zb999, zc999, zd999, ze999, zf999, za1000, zb1000, zc1000, zd1000, ze1000, zf1000, za1440, zb1440, zc1440, zd1440, ze1440, zf1440, zp1, zp2, zp3, zp8, zp40, zq8, zq10, zq40, nI_leI, nI_ltI, nI_eq, px_inbT, nI_clamp, nI_add, pk_m1, if_pos, if_neg, h67, eX12_minutesOn_71, eX12_minutesOn_37, eX12_minutesOn_62, eX12_minutesOn_63, m_min_l hn h67 v y g]
    rw [ac_s]
    by_cases a1 : M 90 k = v
    · by_cases a2 : M 92 k / 1440 = y
      · simp [a1, a2]
      · simp [a1, a2]
    · by_cases a3 : M 91 k = v
      · by_cases a2 : M 92 k / 1440 = y
        · simp [a1, a2, a3]
        · simp [a1, a2, a3]
      · simp [a1, a3]
theorem m_minutesOn {n : Nat} (hn : n ≤ 40) (h67 : M 67 30 = nI n) (v y : Int32) : px_ex px_tab (d + 1) 200 [Value.ref (67), Value.int (v), Value.int (y)] (hp (M) (J) (R) (c) (e) nL xs (D)) = some (some (Value.int (ac (fun k => if (M 90 k = v ∨ M 91 k = v) ∧ M 92 k / 1440 = y then M 94 k else 0) n 0 0)), (hp (M) (J) (R) (c) (e) nL xs (D))) := by
  rw [xX12_minutesOn, eX12_minutesOn_0]
  exact m_min_l _ _ _ _ _ _ _ _ _ hn h67 v y n 0 0 (by omega)
theorem c_hasDiver {n : Nat} (hn : n ≤ 6) (h32 : M 32 0 = nI n) (v : Int32) : px_ex px_tab (d + 1) 6 [Value.ref (32), Value.int (v)] (hp (M) (J) (R) (c) (e) nL xs (D)) = some (some (Value.int (px_in v 0 (nI n - 1))), (hp (M) (J) (R) (c) (e) nL xs (D))) := by
  rw [xX1_hasDiver]
  simp only [px_bd_s, px_psh_s, px_psh_n, px_vb_s, px_ib_s, px_wb_s, px_bo_s, px_bo_n, Bool.cond_decide, cond_true, cond_false, ite_not, Bool.and_true, if_true, if_false, not_true_eq_false, not_false_eq_true, i10, eq_self, decide_true, decide_false, Bool.or_true, Bool.true_or, Bool.or_false, Bool.false_or, eX1_hasDiver_0, eX1_hasDiver_16, eX1_hasDiver_17, h32]
  rcases pk_ix v (n := n) (by omega) with h | h | ⟨i, hi, rfl⟩
  · rw [in_n (by omega) (Or.inl h)]
    simp [h]
  · rw [in_n (by omega) (Or.inr h)]
    by_cases h0 : v < 0 <;> simp [h, h0]
  · rw [in_y hi (by omega)]
    simp (disch := omega) only [za0, zb0, zc0, zd0, ze0, zf0, za1, zb1, zc1, zd1, ze1, zf1, za2, zb2, zc2, zd2, ze2, zf2, za3, zb3, zc3, zd3, ze3, zf3, za4, zb4, zc4, zd4, ze4, zf4, za5, zb5, zc5, zd5, ze5, zf5, za6, zb6, zc6, zd6, ze6, zf6, za7, zb7, zc7, zd7, ze7, zf7, za8, zb8, zc8, zd8, ze8, zf8, za9, zb9, zc9, zd9, ze9, zf9, za10, zb10, zc10, zd10, ze10, zf10, za20, zb20, zc20, zd20, ze20, zf20, za24, zb24, zc24, zd24, ze24, zf24, za39, zb39, zc39, zd39, ze39, zf39, za40, zb40, zc40, zd40, ze40, zf40, za50, zb50, zc50, zd50, ze50, zf50, za51, zb51, zc51, zd51, ze51, zf51, za60, zb60, zc60, zd60, ze60, zf60, za90, zb90, zc90, zd90, ze90, zf90, za99, zb99, zc99, zd99, ze99, zf99, za100, zb100, zc100, zd100, ze100, zf100, za101, zb101, zc101, zd101, ze101, zf101, za120, zb120, zc120, zd120, ze120, zf120, za160, zb160, zc160, zd160, ze160, zf160, za200, zb200, zc200, zd200, ze200, zf200, za400, zb400, zc400, zd400, ze400, zf400, za999, zb999, zc999, zd999, ze999, zf999, za1000, zb1000, zc1000, zd1000, ze1000, zf1000, za1440, zb1440, zc1440, zd1440, ze1440, zf1440, zp1, zp2, zp3, zp8, zp40, zq8, zq10, zq40, nI_leI, nI_ltI, nI_eq, px_inbT, nI_clamp, nI_add, pk_m1, if_pos, if_neg]
    all_goals simp
theorem t_under (hD : IDr M) (hI : IDv M R D) (v y : Int32) : ∃ w, px_ex px_tab (d + 4) 143 [Value.ref (13), Value.int (v), Value.int (y)] (hp (M) (J) (R) (c) (e) nL xs (D)) = some (some (Value.int (w)), (hp (M) (J) (R) (c) (e) nL xs (D))) ∧ px_ex px_tab (d + 4) 206 [Value.ref (67), Value.int (v), Value.int (y)] (hp (M) (J) (R) (c) (e) nL xs (D)) = some (some (Value.int (w)), (hp (M) (J) (R) (c) (e) nL xs (D))) := by
  obtain ⟨m, hm, e32, e67⟩ := hD
  obtain ⟨n, Q, hI⟩ := hI
  rw [xX11_under, xX12_under]
  simp only [px_bd_s, px_psh_s, px_psh_n, px_vb_s, px_ib_s, px_wb_s, px_bo_s, px_bo_n, Bool.cond_decide, cond_true, cond_false, ite_not, Bool.and_true, if_true, if_false, not_true_eq_false, not_false_eq_true, i10, eq_self, decide_true, decide_false, Bool.or_true, Bool.true_or, Bool.or_false, Bool.false_or, eX11_under_0, eX11_under_0_4, eX11_under_30, eX11_under_0_7, eX11_under_32, eX11_under_0_13, eX12_under_0, eX12_under_0_7, eX12_under_30, eX12_under_0_10, eX12_under_32, eX12_under_0_15, c_hasDiver _ _ _ _ _ _ _ _ _ hm e32, c_isDay, c_in, e67, m_isDay, c_minutesOn _ _ _ _ _ _ _ _ _ hI, m_minutesOn _ _ _ _ _ _ _ _ _ hI.1 hI.2.2.1]
  rcases px_in_01 v 0 (nI m - 1) with h1 | h1
  · exact ⟨-2, by simp [h1], by simp [h1]⟩
  · rcases px_in_01 y 0 999 with h2 | h2
    · exact ⟨-2, by simp [h1, h2], by simp [h1, h2]⟩
    · exact ⟨ac (fun k => if (M 90 k = v ∨ M 91 k = v) ∧ M 92 k / 1440 = y then M 94 k else 0) n 0 0, by simp [h1, h2], by simp [h1, h2]⟩
end S29
