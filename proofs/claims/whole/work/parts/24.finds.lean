/-! PART 24: FINDS and TANKS -/
theorem px_in_1 {v lo hi : Int32} (h : lo ≤ v ∧ v ≤ hi) : px_in v lo hi = 1 := if_pos h
theorem px_in_00 {v lo hi : Int32} (h : ¬ (lo ≤ v ∧ v ≤ hi)) : px_in v lo hi = 0 := if_neg h
theorem px_in_01 (v lo hi : Int32) : px_in v lo hi = 0 ∨ px_in v lo hi = 1 := by
  unfold px_in
  split
  · exact Or.inr rfl
  · exact Or.inl rfl
def IFd (M : Nat → Nat → Int32) (R : Nat → Nat → Option Nat) (D : px_H) : Prop := ∃ n P H, IFn n P H (M 28 0) (M 67 13) (R 29) D (M 77) (M 78) (M 79) (M 80) (M 81) (M 82) (M 83) (M 84)
theorem IFd.fr {S K : List Nat} {M M' : Nat → Nat → Int32} {R R' : Nat → Nat → Option Nat} {D D' : px_H} (hf : frm S K M M') (h28 : M' 28 0 = M 28 0) (hS : ∀ a ∈ [77, 78, 79, 80, 81, 82, 83, 84], a ∉ S) (hK : 13 ∉ K) (hR : R' 29 = R 29) (hD : ∀ p F H, fdAt D p F H → fdAt D' p F H) (h : IFd M R D) : IFd M' R' D' := by
  have e : ∀ a, a ≠ 67 → a ∈ [77, 78, 79, 80, 81, 82, 83, 84] → M' a = M a := fun a h1 h2 => hf.1 a h1 (hS a h2)
  obtain ⟨n, P, H, h⟩ := h
  refine ⟨n, P, H, ?_⟩
  rw [h28, e 77 (by decide) (by decide), e 78 (by decide) (by decide), e 79 (by decide) (by decide), e 80 (by decide) (by decide), e 81 (by decide) (by decide), e 82 (by decide) (by decide), e 83 (by decide) (by decide), e 84 (by decide) (by decide), hf.2 13 hK, hR]
  refine ⟨h.1, h.2.1, h.2.2.1, h.2.2.2.1, fun i hi => ?_, h.2.2.2.2.2⟩
  obtain ⟨h1, h2, h3, h4⟩ := h.2.2.2.2.1 i hi
  exact ⟨h1, hD _ _ _ h2, h3, h4⟩
def ITk (M : Nat → Nat → Int32) : Prop := ∃ t, t ≤ 6 ∧ M 28 1 = nI t ∧ M 67 22 = nI t ∧ ∀ j, j < t → M 30 j = M 85 j ∧ M 31 j = M 86 j ∧ ∃ a, a ≤ 5 ∧ M 85 j = nI a
theorem ITk.fr {S K : List Nat} {M M' : Nat → Nat → Int32} (hf : frm S K M M') (h28 : M' 28 1 = M 28 1) (hS : ∀ a ∈ [30, 31, 85, 86], a ∉ S) (hK : 22 ∉ K) (h : ITk M) : ITk M' := by
  have e : ∀ a, a ≠ 67 → a ∈ [30, 31, 85, 86] → M' a = M a := fun a h1 h2 => hf.1 a h1 (hS a h2)
  unfold ITk
  rw [e 30 (by decide) (by decide), e 31 (by decide) (by decide), e 85 (by decide) (by decide), e 86 (by decide) (by decide), hf.2 22 hK, h28]
  exact h
def IW (M : Nat → Nat → Int32) : Prop := M 58 0 = M 67 48 ∧ M 58 1 = M 67 49
theorem IW.fr {S K : List Nat} {M M' : Nat → Nat → Int32} (hf : frm S K M M') (hS : 58 ∉ S) (hK : 48 ∉ K) (hK2 : 49 ∉ K) (h : IW M) : IW M' := by
  unfold IW
  rw [hf.1 58 (by decide) hS, hf.2 48 hK, hf.2 49 hK2]
  exact h
/-- a sum over a row -/
def ac (f : Nat → Int32) : Nat → Nat → Int32 → Int32
  | 0, _, a => a
  | g + 1, k, a => ac f g (k + 1) (a + f k)
theorem ac_s (f : Nat → Int32) (g k : Nat) (a : Int32) : ac f (g + 1) k a = ac f g (k + 1) (a + f k) := rfl
theorem ac_c {f f' : Nat → Int32} : ∀ (g k : Nat) (a : Int32), (∀ i, k ≤ i → i < k + g → f i = f' i) → ac f g k a = ac f' g k a
  | 0, _, _, _ => rfl
  | g + 1, k, a, h => by
    rw [ac_s, ac_s]
    rw [h k (Nat.le_refl _) (by omega)]
    exact ac_c g (k + 1) _ (fun i h1 h2 => h i (by omega) (by omega))
theorem fdF_c {kd sq la sz hc tk cm kd' sq' la' sz' hc' tk' cm' : Nat → Int32} {i : Nat} (h1 : kd' i = kd i) (h2 : sq' i = sq i) (h3 : la' i = la i) (h4 : sz' i = sz i) (h5 : hc' i = hc i) (h6 : tk' i = tk i) (h7 : cm' i = cm i) : fdF kd' sq' la' sz' hc' tk' cm' i = fdF kd sq la sz hc tk cm i := by
  funext k
  unfold fdF
  rw [h1, h2, h3, h4, h5, h6, h7]
theorem fdF_4 (kd sq la sz hc tk cm : Nat → Int32) (i : Nat) (x : Int32) : upd (fdF kd sq la sz hc tk cm i) 4 x = fdF kd sq la sz (upd hc i x) tk cm i := by
  funext k
  match k with
  | 0 => rfl
  | 1 => rfl
  | 2 => rfl
  | 3 => rfl
  | 4 =>
    show upd _ 4 x 4 = upd hc i x i
    rw [pk_us, pk_us]
  | 5 => rfl
  | 6 => rfl
  | 7 => rfl
  | 8 => rfl
  | k + 9 => exact pk_un (by omega)
section S24
variable (d : Nat) (M : Nat → Nat → Int32) (J : Nat → Nat → Int64) (R : Nat → Nat → Option Nat) (c e nL : Nat) (xs : Nat → Int32) (D : px_H)
theorem t_hatches (hI : IW M) (v : Int32) : ∃ w M1 M2, px_ex px_tab (d + 2) 155 [Value.ref (13), Value.int (v)] (hp (M) (J) (R) (c) (e) nL xs (D)) = some (some (Value.int (w)), (hp (M1) (J) (R) (c) (e) nL xs (D))) ∧ px_ex px_tab (d + 2) 244 [Value.ref (67), Value.int (v)] (hp (M1) (J) (R) (c) (e) nL xs (D)) = some (some (Value.int (w)), (hp (M2) (J) (R) (c) (e) nL xs (D))) ∧ IW M2 ∧ frm [58] [48] M M2 := by
  rw [c_hatches]
  by_cases h : v &&& (-31) = 0
  · refine ⟨M 58 0, _, px_uR (px_uR M 58 (upd (M 58) 0 v)) 67 (upd (M 67) 48 v), if_pos h, (m_hatches _ _ _ _ _ _ _ _ _ v).trans ((if_pos ((px_hat v).mp h)).trans ?_), ?_, ?_⟩
    · rw [hI.1]
      rfl
    · exact ⟨rfl, hI.2⟩
    · exact ((frm.rf _ _ _).u 58 _ (by decide) (by decide)).k 48 _ (by decide)
  · exact ⟨-2, M, M, if_neg h, (m_hatches _ _ _ _ _ _ _ _ _ v).trans (if_neg fun q => h ((px_hat v).mpr q)), hI, frm.rf _ _ _⟩
theorem t_roll (hI : IW M) (v : Int32) : ∃ w M1 M2, px_ex px_tab (d + 2) 156 [Value.ref (13), Value.int (v)] (hp (M) (J) (R) (c) (e) nL xs (D)) = some (some (Value.int (w)), (hp (M1) (J) (R) (c) (e) nL xs (D))) ∧ px_ex px_tab (d + 2) 245 [Value.ref (67), Value.int (v)] (hp (M1) (J) (R) (c) (e) nL xs (D)) = some (some (Value.int (w)), (hp (M2) (J) (R) (c) (e) nL xs (D))) ∧ IW M2 ∧ frm [58] [49] M M2 := by
  rw [c_roll]
  by_cases h : -9 ≤ v ∧ v ≤ 9
  · refine ⟨M 58 1, _, px_uR (px_uR M 58 (upd (M 58) 1 v)) 67 (upd (M 67) 49 v), if_pos h, (m_roll _ _ _ _ _ _ _ _ _ v).trans ((if_pos h).trans ?_), ?_, ?_⟩
    · rw [hI.2]
      rfl
    · exact ⟨hI.1, rfl⟩
    · exact ((frm.rf _ _ _).u 58 _ (by decide) (by decide)).k 49 _ (by decide)
  · exact ⟨-2, M, M, if_neg h, (m_roll _ _ _ _ _ _ _ _ _ v).trans (if_neg h), hI, frm.rf _ _ _⟩
theorem t_stood (hI : IFd M R D) (hW : IW M) (v : Int32) : ∃ w, px_ex px_tab (d + 4) 157 [Value.ref (13), Value.int (v)] (hp (M) (J) (R) (c) (e) nL xs (D)) = some (some (Value.int (w)), (hp (M) (J) (R) (c) (e) nL xs (D))) ∧ px_ex px_tab (d + 4) 248 [Value.ref (67), Value.int (v)] (hp (M) (J) (R) (c) (e) nL xs (D)) = some (some (Value.int (w)), (hp (M) (J) (R) (c) (e) nL xs (D))) := by
  obtain ⟨n, P, H, hF⟩ := hI
  have hn := hF.1
  rcases pk_ix v (n := n) (by omega) with h | h | ⟨i, hi, rfl⟩
  · exact ⟨-2, c_stood_n _ _ _ _ _ _ _ _ _ hF.2.1 v (Or.inl h), m_stood_n (d + 1) _ _ _ _ _ _ _ _ hn hF.2.2.1 v (Or.inl h)⟩
  · exact ⟨-2, c_stood_n _ _ _ _ _ _ _ _ _ hF.2.1 v (Or.inr h), m_stood_n (d + 1) _ _ _ _ _ _ _ _ hn hF.2.2.1 v (Or.inr h)⟩
  · obtain ⟨h1, h2, h3, h4⟩ := hF.2.2.2.2.1 i hi
    refine ⟨_, c_stood_y _ _ _ _ _ _ _ _ _ hn hF.2.1 i hi h1 h2, ?_⟩
    rw [m_stood_y (d + 1) _ _ _ _ _ _ _ _ hn hF.2.2.1 i hi, hW.1, hW.2]
    rfl
theorem t_stoodAt (hI : IFd M R D) (hW : IW M) (v u : Int32) : ∃ w, px_ex px_tab (d + 4) 158 [Value.ref (13), Value.int (v), Value.int (u)] (hp (M) (J) (R) (c) (e) nL xs (D)) = some (some (Value.int (w)), (hp (M) (J) (R) (c) (e) nL xs (D))) ∧ px_ex px_tab (d + 4) 249 [Value.ref (67), Value.int (v), Value.int (u)] (hp (M) (J) (R) (c) (e) nL xs (D)) = some (some (Value.int (w)), (hp (M) (J) (R) (c) (e) nL xs (D))) := by
  obtain ⟨n, P, H, hF⟩ := hI
  have hn := hF.1
  rcases pk_ix v (n := n) (by omega) with h | h | ⟨i, hi, rfl⟩
  · exact ⟨-2, c_stoodAt_n _ _ _ _ _ _ _ _ _ hF.2.1 v u (Or.inl h), m_stoodAt_n (d + 1) _ _ _ _ _ _ _ _ hn hF.2.2.1 v u (Or.inl h)⟩
  · exact ⟨-2, c_stoodAt_n _ _ _ _ _ _ _ _ _ hF.2.1 v u (Or.inr h), m_stoodAt_n (d + 1) _ _ _ _ _ _ _ _ hn hF.2.2.1 v u (Or.inr h)⟩
  · obtain ⟨h1, h2, h3, h4⟩ := hF.2.2.2.2.1 i hi
    refine ⟨_, c_stoodAt_y _ _ _ _ _ _ _ _ _ hn hF.2.1 i hi h1 h2 u, ?_⟩
    rw [m_stoodAt_y (d + 1) _ _ _ _ _ _ _ _ hn hF.2.2.1 i hi, hW.1, hW.2]
    rfl
/-- timbers -/
theorem c_timberAt {n : Nat} {P : Nat → Nat} (hn : n ≤ 20) (h28 : M 28 0 = nI n) (i : Nat) (hi : i < n) (hr : R 29 i = some (111 + P i)) {F H : Nat → Int32} (h : fdAt D (P i) F H) : px_ex px_tab (d + 2) 112 [Value.ref (28), Value.int (nI i)] (hp (M) (J) (R) (c) (e) nL xs (D)) = if F 0 = 1 then some (some (Value.ref (111 + P i)), (hp (M) (J) (R) (c) (e) nL xs (D))) else some (some (Value.null), (hp (M) (J) (R) (c) (e) nL xs (D))) := by
  rw [xX10_timberAt]
  simp only [px_bd_s, px_psh_s, px_psh_n, px_vb_s, px_ib_s, px_wb_s, px_bo_s, px_bo_n, Bool.cond_decide, cond_true, cond_false, ite_not, Bool.and_true, if_true, if_false, not_true_eq_false, not_false_eq_true, i10, eq_self, decide_true, decide_false, Bool.or_true, Bool.true_or, Bool.or_false, Bool.false_or, eX10_timberAt_0, eX10_timberAt_0_3, eX10_timberAt_0_3_b, eX10_timberAt_0_7, eX10_timberAt_22, eX10_timberAt_0_8, eX10_timberAt_23, eX10_timberAt_23_b, c_findAt_y _ _ _ _ _ _ _ _ _ hn h28 i hi hr, fd_g0 h]
theorem c_timberAt_n {n : Nat} (h28 : M 28 0 = nI n) (v : Int32) (hv : v < 0 ∨ nI n ≤ v) : px_ex px_tab (d + 2) 112 [Value.ref (28), Value.int (v)] (hp (M) (J) (R) (c) (e) nL xs (D)) = some (some (Value.null), (hp (M) (J) (R) (c) (e) nL xs (D))) := by
  rw [xX10_timberAt]
  simp only [px_bd_s, px_psh_s, px_psh_n, px_vb_s, px_ib_s, px_wb_s, px_bo_s, px_bo_n, Bool.cond_decide, cond_true, cond_false, ite_not, Bool.and_true, if_true, if_false, not_true_eq_false, not_false_eq_true, i10, eq_self, decide_true, decide_false, Bool.or_true, Bool.true_or, Bool.or_false, Bool.false_or, eX10_timberAt_0, eX10_timberAt_0_3, eX10_timberAt_0_3_b, eX10_timberAt_0_7, eX10_timberAt_22, eX10_timberAt_0_8, eX10_timberAt_23, eX10_timberAt_23_b, c_findAt_n _ _ _ _ _ _ _ _ _ h28 v hv]
theorem m_isTimber {n : Nat} (hn : n ≤ 20) (h67 : M 67 13 = nI n) (i : Nat) (hi : i < n) : px_ex px_tab (d + 3) 183 [Value.ref (67), Value.int (nI i)] (hp (M) (J) (R) (c) (e) nL xs (D)) = some (some (Value.int (if M 77 i = 1 then 1 else 0)), (hp (M) (J) (R) (c) (e) nL xs (D))) := by
  rw [xX12_isTimber]
  simp (disch := omega) only [px_bd_s, px_psh_s, px_psh_n, px_vb_s, px_ib_s, px_wb_s, px_bo_s, px_bo_n, Bool.cond_decide, cond_true, cond_false, ite_not, Bool.and_true, if_true, if_false, not_true_eq_false, not_false_eq_true, i10, eq_self, decide_true, decide_false, Bool.or_true, Bool.true_or, Bool.or_false, Bool.false_or, za0, zb0, zc0, zd0, ze0, zf0, za1, zb1, zc1, zd1, ze1, zf1, za2, zb2, zc2, zd2, ze2, zf2, za3, zb3, zc3, zd3, ze3, zf3, za4, zb4, zc4, zd4, ze4, zf4, za5, zb5, zc5, zd5, ze5, zf5, za6, zb6, zc6, zd6, ze6, zf6, za7, zb7, zc7, zd7, ze7, zf7, za8, zb8, zc8, zd8, ze8, zf8, za9, zb9, zc9, zd9, ze9, zf9, za10, zb10, zc10, zd10, ze10, zf10, za20, zb20, zc20, zd20, ze20, zf20, za24, zb24, zc24, zd24, ze24, zf24, za39, zb39, zc39, zd39, ze39, zf39, za40, zb40, zc40, zd40, ze40, zf40, za50, zb50, zc50, zd50, ze50, zf50, za51, zb51, zc51, zd51, ze51, zf51, za60, zb60, zc60, zd60, ze60, zf60, za90, zb90, zc90, zd90, ze90, zf90, za99, zb99, zc99, zd99, ze99, zf99, za100, zb100, zc100, zd100, ze100, zf100, za101, zb101, zc101, zd101, ze101, zf101, za120, zb120, zc120, zd120, ze120, zf120, za160, zb160, zc160, zd160, ze160, zf160, za200, zb200, zc200, zd200, ze200, zf200, za400, zb400, zc400, zd400, ze400, zf400, za999, zb999, zc999, zd999, ze999, zf999, za1000, zb1000, zc1000, zd1000, ze1000, zf1000, za1440, zb1440, zc1440, zd1440, ze1440, zf1440, zp1, zp2, zp3, zp8, zp40, zq8, zq10, zq40, nI_leI, nI_ltI, nI_eq, px_inbT, nI_clamp, nI_add, pk_m1, if_pos, if_neg, eX12_isTimber_0, eX12_isTimber_0_3, eX12_isTimber_22, eX12_isTimber_23, m_isFind, h67, in_y hi]
  by_cases h : M 77 i = 1 <;> simp [h]
theorem m_isTimber_n {n : Nat} (hn : n ≤ 20) (h67 : M 67 13 = nI n) (v : Int32) (hv : v < 0 ∨ nI n ≤ v) : px_ex px_tab (d + 3) 183 [Value.ref (67), Value.int (v)] (hp (M) (J) (R) (c) (e) nL xs (D)) = some (some (Value.int (0)), (hp (M) (J) (R) (c) (e) nL xs (D))) := by
  rw [xX12_isTimber]
  simp (disch := omega) only [px_bd_s, px_psh_s, px_psh_n, px_vb_s, px_ib_s, px_wb_s, px_bo_s, px_bo_n, Bool.cond_decide, cond_true, cond_false, ite_not, Bool.and_true, if_true, if_false, not_true_eq_false, not_false_eq_true, i10, eq_self, decide_true, decide_false, Bool.or_true, Bool.true_or, Bool.or_false, Bool.false_or, za0, zb0, zc0, zd0, ze0, zf0, za1, zb1, zc1, zd1, ze1, zf1, za2, zb2, zc2, zd2, ze2, zf2, za3, zb3, zc3, zd3, ze3, zf3, za4, zb4, zc4, zd4, ze4, zf4, za5, zb5, zc5, zd5, ze5, zf5, za6, zb6, zc6, zd6, ze6, zf6, za7, zb7, zc7, zd7, ze7, zf7, za8, zb8, zc8, zd8, ze8, zf8, za9, zb9, zc9, zd9, ze9, zf9, za10, zb10, zc10, zd10, ze10, zf10, za20, zb20, zc20, zd20, ze20, zf20, za24, zb24, zc24, zd24, ze24, zf24, za39, zb39, zc39, zd39, ze39, zf39, za40, zb40, zc40, zd40, ze40, zf40, za50, zb50, zc50, zd50, ze50, zf50, za51, zb51, zc51, zd51, ze51, zf51, za60, zb60, zc60, zd60, ze60, zf60, za90, zb90, zc90, zd90, ze90, zf90, za99, zb99, zc99, zd99, ze99, zf99, za100, zb100, zc100, zd100, ze100, zf100, za101, zb101, zc101, zd101, ze101, zf101, za120, zb120, zc120, zd120, ze120, zf120, za160, zb160, zc160, zd160, ze160, zf160, za200, zb200, zc200, zd200, ze200, zf200, za400, zb400, zc400, zd400, ze400, zf400, za999, zb999, zc999, zd999, ze999, zf999, za1000, zb1000, zc1000, zd1000, ze1000, zf1000, za1440, zb1440, zc1440, zd1440, ze1440, zf1440, zp1, zp2, zp3, zp8, zp40, zq8, zq10, zq40, nI_leI, nI_ltI, nI_eq, px_inbT, nI_clamp, nI_add, pk_m1, if_pos, if_neg, eX12_isTimber_0, eX12_isTimber_0_3, eX12_isTimber_22, eX12_isTimber_23, m_isFind, h67, in_n (n := n) (by omega) hv]
  all_goals simp
/-- FIND TOLD -/
theorem c_readyDay {p : Nat} {F H : Nat → Int32} (h : fdAt D p F H) {k : Nat} (hk : k ≤ 5) (h0 : F 0 = nI k) : px_ex px_tab (d + 1) 27 [Value.ref (111 + p)] (hp (M) (J) (R) (c) (e) nL xs (D)) = some (some (Value.int (if F 7 = -1 then -1 else F 8 + 7 * px_WK k * F 3)), (hp (M) (J) (R) (c) (e) nL xs (D))) := by
  rw [xX2_readyDay]
  simp (disch := omega) only [px_bd_s, px_psh_s, px_psh_n, px_vb_s, px_ib_s, px_wb_s, px_bo_s, px_bo_n, Bool.cond_decide, cond_true, cond_false, ite_not, Bool.and_true, if_true, if_false, not_true_eq_false, not_false_eq_true, i10, eq_self, decide_true, decide_false, Bool.or_true, Bool.true_or, Bool.or_false, Bool.false_or, za0, zb0, zc0, zd0, ze0, zf0, za1, zb1, zc1, zd1, ze1, zf1, za2, zb2, zc2, zd2, ze2, zf2, za3, zb3, zc3, zd3, ze3, zf3, za4, zb4, zc4, zd4, ze4, zf4, za5, zb5, zc5, zd5, ze5, zf5, za6, zb6, zc6, zd6, ze6, zf6, za7, zb7, zc7, zd7, ze7, zf7, za8, zb8, zc8, zd8, ze8, zf8, za9, zb9, zc9, zd9, ze9, zf9, za10, zb10, zc10, zd10, ze10, zf10, za20, zb20, zc20, zd20, ze20, zf20, za24, zb24, zc24, zd24, ze24, zf24, za39, zb39, zc39, zd39, ze39, zf39, za40, zb40, zc40, zd40, ze40, zf40, za50, zb50, zc50, zd50, ze50, zf50, za51, zb51, zc51, zd51, ze51, zf51, za60, zb60, zc60, zd60, ze60, zf60, za90, zb90, zc90, zd90, ze90, zf90, za99, zb99, zc99, zd99, ze99, zf99, za100, zb100, zc100, zd100, ze100, zf100, za101, zb101, zc101, zd101, ze101, zf101, za120, zb120, zc120, zd120, ze120, zf120, za160, zb160, zc160, zd160, ze160, zf160, za200, zb200, zc200, zd200, ze200, zf200, za400, zb400, zc400, zd400, ze400, zf400, za999, zb999, zc999, zd999, ze999, zf999, za1000, zb1000, zc1000, zd1000, ze1000, zf1000, za1440, zb1440, zc1440, zd1440, ze1440, zf1440, zp1, zp2, zp3, zp8, zp40, zq8, zq10, zq40, nI_leI, nI_ltI, nI_eq, px_inbT, nI_clamp, nI_add, pk_m1, if_pos, if_neg, eX2_readyDay_0, eX2_readyDay_0_1, eX2_readyDay_0_2, eX2_readyDay_24, eX2_readyDay_0_5, eX2_readyDay_49, eX2_readyDay_0_6, eX2_readyDay_0_8, eX2_readyDay_0_9, eX2_readyDay_28, eX2_readyDay_28_1, eX2_readyDay_28_2, eX2_readyDay_28_5, eX2_readyDay_28_6, eX2_readyDay_28_9, eX2_readyDay_28_10, fd_g0 h, fd_g7 h, fd_g8 h, fd_g3 h, h0]
  by_cases h1 : F 7 = -1 <;> simp [h1]
theorem c_item {p : Nat} {F H : Nat → Int32} (h : fdAt D p F H) {k : Nat} (hk : k ≤ 5) (h0 : F 0 = nI k) (v : Int32) : px_ex px_tab (d + 2) 26 [Value.ref (111 + p), Value.int (v)] (hp (M) (J) (R) (c) (e) nL xs (D)) = some (some (Value.int (if v = 0 then F 0 else if v = 1 then F 1 else if v = 2 then F 2 else if v = 3 then F 3 else if v = 4 then F 4 else if v = 5 then F 7 else if v = 6 then F 8 else if v = 7 then (if F 7 = -1 then -1 else F 8 + 7 * px_WK k * F 3) else -2)), (hp (M) (J) (R) (c) (e) nL xs (D))) := by
  rw [xX2_item]
  simp only [px_bd_s, px_psh_s, px_psh_n, px_vb_s, px_ib_s, px_wb_s, px_bo_s, px_bo_n, Bool.cond_decide, cond_true, cond_false, ite_not, Bool.and_true, if_true, if_false, not_true_eq_false, not_false_eq_true, i10, eq_self, decide_true, decide_false, Bool.or_true, Bool.true_or, Bool.or_false, Bool.false_or, eX2_item_0, eX2_item_88, eX2_item_83, eX2_item_78, eX2_item_73, eX2_item_68, eX2_item_63, eX2_item_58, eX2_item_53, eX2_item_48, eX2_item_83_1, eX2_item_78_1, eX2_item_73_1, eX2_item_68_1, eX2_item_63_1, eX2_item_58_1, eX2_item_53_1, eX2_item_48_1, eX2_item_83_2, eX2_item_78_2, eX2_item_73_2, eX2_item_68_2, eX2_item_63_2, eX2_item_58_2, eX2_item_53_2, eX2_item_48_2, fd_g0 h, fd_g1 h, fd_g2 h, fd_g3 h, fd_g4 h, fd_g7 h, fd_g8 h, fd_isc h, c_readyDay _ _ _ _ _ _ _ _ _ h hk h0]
  repeat' split
  all_goals rfl
theorem m_weeks {i k : Nat} (hi : i < 20) (hk : k ≤ 5) (h0 : M 77 i = nI k) : px_ex px_tab (d + 1) 185 [Value.ref (67), Value.int (nI i)] (hp (M) (J) (R) (c) (e) nL xs (D)) = some (some (Value.int (px_WK k * M 80 i)), (hp (M) (J) (R) (c) (e) nL xs (D))) := by
  rw [xX12_weeks]
  simp (disch := omega) only [px_bd_s, px_psh_s, px_psh_n, px_vb_s, px_ib_s, px_wb_s, px_bo_s, px_bo_n, Bool.cond_decide, cond_true, cond_false, ite_not, Bool.and_true, if_true, if_false, not_true_eq_false, not_false_eq_true, i10, eq_self, decide_true, decide_false, Bool.or_true, Bool.true_or, Bool.or_false, Bool.false_or, za0, zb0, zc0, zd0, ze0, zf0, za1, zb1, zc1, zd1, ze1, zf1, za2, zb2, zc2, zd2, ze2, zf2, za3, zb3, zc3, zd3, ze3, zf3, za4, zb4, zc4, zd4, ze4, zf4, za5, zb5, zc5, zd5, ze5, zf5, za6, zb6, zc6, zd6, ze6, zf6, za7, zb7, zc7, zd7, ze7, zf7, za8, zb8, zc8, zd8, ze8, zf8, za9, zb9, zc9, zd9, ze9, zf9, za10, zb10, zc10, zd10, ze10, zf10, za20, zb20, zc20, zd20, ze20, zf20, za24, zb24, zc24, zd24, ze24, zf24, za39, zb39, zc39, zd39, ze39, zf39, za40, zb40, zc40, zd40, ze40, zf40, za50, zb50, zc50, zd50, ze50, zf50, za51, zb51, zc51, zd51, ze51, zf51, za60, zb60, zc60, zd60, ze60, zf60, za90, zb90, zc90, zd90, ze90, zf90, za99, zb99, zc99, zd99, ze99, zf99, za100, zb100, zc100, zd100, ze100, zf100, za101, zb101, zc101, zd101, ze101, zf101, za120, zb120, zc120, zd120, ze120, zf120, za160, zb160, zc160, zd160, ze160, zf160, za200, zb200, zc200, zd200, ze200, zf200, za400, zb400, zc400, zd400, ze400, zf400, za999, zb999, zc999, zd999, ze999, zf999, za1000, zb1000, zc1000, zd1000, ze1000, zf1000, za1440, zb1440, zc1440, zd1440, ze1440, zf1440, zp1, zp2, zp3, zp8, zp40, zq8, zq10, zq40, nI_leI, nI_ltI, nI_eq, px_inbT, nI_clamp, nI_add, pk_m1, if_pos, if_neg, eX12_weeks_0, eX12_weeks_88, eX12_weeks_78, eX12_weeks_69, eX12_weeks_59, eX12_weeks_49, eX12_weeks_40, h0]
  rcases (by omega : k = 0 ∨ k = 1 ∨ k = 2 ∨ k = 3 ∨ k = 4 ∨ k = 5) with rfl | rfl | rfl | rfl | rfl | rfl
  all_goals simp [px_WK]
theorem m_findTold {n : Nat} (hn : n ≤ 20) (h67 : M 67 13 = nI n) (i : Nat) (hi : i < n) {k : Nat} (hk : k ≤ 5) (h0 : M 77 i = nI k) (v : Int32) : px_ex px_tab (d + 3) 186 [Value.ref (67), Value.int (nI i), Value.int (v)] (hp (M) (J) (R) (c) (e) nL xs (D)) = some (some (Value.int (if v = 0 then M 77 i else if v = 1 then M 78 i else if v = 2 then M 79 i else if v = 3 then M 80 i else if v = 4 then M 81 i else if v = 5 then (if M 83 i < 0 then -1 else M 83 i) else if v = 6 then (if M 83 i < 0 then -1 else M 84 i) else if v = 7 then (if M 83 i < 0 then -1 else M 84 i + 7 * (px_WK k * M 80 i)) else -2)), (hp (M) (J) (R) (c) (e) nL xs (D))) := by
  rw [xX12_findTold]
  simp (disch := omega) only [px_bd_s, px_psh_s, px_psh_n, px_vb_s, px_ib_s, px_wb_s, px_bo_s, px_bo_n, Bool.cond_decide, cond_true, cond_false, ite_not, Bool.and_true, if_true, if_false, not_true_eq_false, not_false_eq_true, i10, eq_self, decide_true, decide_false, Bool.or_true, Bool.true_or, Bool.or_false, Bool.false_or, eX12_findTold_0, eX12_findTold_0_3, eX12_findTold_0_8, m_isFind, h67, in_y hi, c_in]
  by_cases hv : 0 ≤ v ∧ v ≤ 7
  · rw [px_in_1 hv]
    obtain ⟨j, hj, rfl⟩ := nI_of2 (x := v) (M := 7) (n := 7) (by decide) (Int32.not_lt.mpr hv.1) hv.2
    rcases (by omega : j = 0 ∨ j = 1 ∨ j = 2 ∨ j = 3 ∨ j = 4 ∨ j = 5 ∨ j = 6 ∨ j = 7) with rfl | rfl | rfl | rfl | rfl | rfl | rfl | rfl
    all_goals by_cases ht : M 83 i < 0 <;> simp (disch := omega) only [px_bd_s, px_psh_s, px_psh_n, px_vb_s, px_ib_s, px_wb_s, px_bo_s, px_bo_n, Bool.cond_decide, cond_true, cond_false, ite_not, Bool.and_true, if_true, if_false, not_true_eq_false, not_false_eq_true, i10, eq_self, decide_true, decide_false, Bool.or_true, Bool.true_or, Bool.or_false, Bool.false_or, za0, zb0, zc0, zd0, ze0, zf0, za1, zb1, zc1, zd1, ze1, zf1, za2, zb2, zc2, zd2, ze2, zf2, za3, zb3, zc3, zd3, ze3, zf3, za4, zb4, zc4, zd4, ze4, zf4, za5, zb5, zc5, zd5, ze5, zf5, za6, zb6, zc6, zd6, ze6, zf6, za7, zb7, zc7, zd7, ze7, zf7, za8, zb8, zc8, zd8, ze8, zf8, za9, zb9, zc9, zd9, ze9, zf9, za10, zb10, zc10, zd10, ze10, zf10, za20, zb20, zc20, zd20, ze20, zf20, za24, zb24, zc24, zd24, ze24, zf24, za39, zb39, zc39, zd39, ze39, zf39, za40, zb40, zc40, zd40, ze40, zf40, za50, zb50, zc50, zd50, ze50, zf50, za51, zb51, zc51, zd51, ze51, zf51, za60, zb60, zc60, zd60, ze60, zf60, za90, zb90, zc90, zd90, ze90, zf90, za99, zb99, zc99, zd99, ze99, zf99, za100, zb100, zc100, zd100, ze100, zf100, za101, zb101, zc101, zd101, ze101, zf101, za120, zb120, zc120, zd120, ze120, zf120, za160, zb160, zc160, zd160, ze160, zf160, za200, zb200, zc200, zd200, ze200, zf200, za400, zb400, zc400, zd400, ze400, zf400, za999, zb999, zc999, zd999, ze999, zf999, za1000, zb1000, zc1000, zd1000, ze1000, zf1000, za1440, zb1440, zc1440, zd1440, ze1440, zf1440, zp1, zp2, zp3, zp8, zp40, zq8, zq10, zq40, nI_leI, nI_ltI, nI_eq, px_inbT, nI_clamp, nI_add, pk_m1, if_pos, if_neg, eX12_findTold_18, eX12_findTold_21, eX12_findTold_34, eX12_findTold_35, eX12_findTold_145, eX12_findTold_130, eX12_findTold_115, eX12_findTold_108, eX12_findTold_101, eX12_findTold_94, eX12_findTold_87, eX12_findTold_80, eX12_findTold_167, eX12_findTold_145_10, eX12_findTold_143, eX12_findTold_144, eX12_findTold_128, eX12_findTold_129, eX12_findTold_168, ht, m_weeks _ _ _ _ _ _ _ _ _ (show i < 20 by omega) hk h0]
  · rw [px_in_00 hv]
    have hne : ∀ j : Nat, j ≤ 7 → ¬ v = nI j := by
      rintro j hj rfl
      exact hv ⟨nI_pos' (by omega), nI_le (b := 7) (by omega) (by decide)⟩
    have e0 : ¬ v = 0 := hne 0 (by decide)
    have e1 : ¬ v = 1 := hne 1 (by decide)
    have e2 : ¬ v = 2 := hne 2 (by decide)
    have e3 : ¬ v = 3 := hne 3 (by decide)
    have e4 : ¬ v = 4 := hne 4 (by decide)
    have e5 : ¬ v = 5 := hne 5 (by decide)
    have e6 : ¬ v = 6 := hne 6 (by decide)
    have e7 : ¬ v = 7 := hne 7 (by decide)
    simp only [px_bd_s, px_psh_s, px_psh_n, px_vb_s, px_ib_s, px_wb_s, px_bo_s, px_bo_n, Bool.cond_decide, cond_true, cond_false, ite_not, Bool.and_true, if_true, if_false, not_true_eq_false, not_false_eq_true, i10, eq_self, decide_true, decide_false, Bool.or_true, Bool.true_or, Bool.or_false, Bool.false_or, eX12_findTold_18, e0, e1, e2, e3, e4, e5, e6, e7]
theorem t_findTold (hI : IFd M R D) (v u : Int32) : ∃ w, px_ex px_tab (d + 4) 131 [Value.ref (13), Value.int (v), Value.int (u)] (hp (M) (J) (R) (c) (e) nL xs (D)) = some (some (Value.int (w)), (hp (M) (J) (R) (c) (e) nL xs (D))) ∧ px_ex px_tab (d + 4) 186 [Value.ref (67), Value.int (v), Value.int (u)] (hp (M) (J) (R) (c) (e) nL xs (D)) = some (some (Value.int (w)), (hp (M) (J) (R) (c) (e) nL xs (D))) := by
  obtain ⟨n, P, H, hF⟩ := hI
  have hn := hF.1
  rcases pk_ix v (n := n) (by omega) with h | h | ⟨i, hi, rfl⟩
  · refine ⟨-2, ?_, ?_⟩
    · rw [xX11_findTold]
      simp only [px_bd_s, px_psh_s, px_psh_n, px_vb_s, px_ib_s, px_wb_s, px_bo_s, px_bo_n, Bool.cond_decide, cond_true, cond_false, ite_not, Bool.and_true, if_true, if_false, not_true_eq_false, not_false_eq_true, i10, eq_self, decide_true, decide_false, Bool.or_true, Bool.true_or, Bool.or_false, Bool.false_or, eX11_findTold_0, eX11_findTold_0_4, eX11_findTold_0_4_b, eX11_findTold_18, eX11_findTold_23, eX11_findTold_18_3, eX11_findTold_18_2, c_findAt_n _ _ _ _ _ _ _ _ _ hF.2.1 v (Or.inl h)]
    · rw [xX12_findTold]
      simp [px_bd_s, px_psh_s, px_psh_n, px_vb_s, px_ib_s, px_wb_s, px_bo_s, px_bo_n, Bool.cond_decide, cond_true, cond_false, ite_not, Bool.and_true, if_true, if_false, not_true_eq_false, not_false_eq_true, i10, eq_self, decide_true, decide_false, Bool.or_true, Bool.true_or, Bool.or_false, Bool.false_or, eX12_findTold_0, eX12_findTold_0_3, eX12_findTold_18, eX12_findTold_0_8, eX12_findTold_21, eX12_findTold_34, eX12_findTold_35, eX12_findTold_145, eX12_findTold_130, eX12_findTold_115, eX12_findTold_108, eX12_findTold_101, eX12_findTold_94, eX12_findTold_87, eX12_findTold_80, eX12_findTold_167, eX12_findTold_145_10, eX12_findTold_143, eX12_findTold_144, eX12_findTold_128, eX12_findTold_129, eX12_findTold_168, m_isFind, hF.2.2.1, in_n (n := n) (by omega) (Or.inl h)]
  · refine ⟨-2, ?_, ?_⟩
    · rw [xX11_findTold]
      simp only [px_bd_s, px_psh_s, px_psh_n, px_vb_s, px_ib_s, px_wb_s, px_bo_s, px_bo_n, Bool.cond_decide, cond_true, cond_false, ite_not, Bool.and_true, if_true, if_false, not_true_eq_false, not_false_eq_true, i10, eq_self, decide_true, decide_false, Bool.or_true, Bool.true_or, Bool.or_false, Bool.false_or, eX11_findTold_0, eX11_findTold_0_4, eX11_findTold_0_4_b, eX11_findTold_18, eX11_findTold_23, eX11_findTold_18_3, eX11_findTold_18_2, c_findAt_n _ _ _ _ _ _ _ _ _ hF.2.1 v (Or.inr h)]
    · rw [xX12_findTold]
      simp [px_bd_s, px_psh_s, px_psh_n, px_vb_s, px_ib_s, px_wb_s, px_bo_s, px_bo_n, Bool.cond_decide, cond_true, cond_false, ite_not, Bool.and_true, if_true, if_false, not_true_eq_false, not_false_eq_true, i10, eq_self, decide_true, decide_false, Bool.or_true, Bool.true_or, Bool.or_false, Bool.false_or, eX12_findTold_0, eX12_findTold_0_3, eX12_findTold_18, eX12_findTold_0_8, eX12_findTold_21, eX12_findTold_34, eX12_findTold_35, eX12_findTold_145, eX12_findTold_130, eX12_findTold_115, eX12_findTold_108, eX12_findTold_101, eX12_findTold_94, eX12_findTold_87, eX12_findTold_80, eX12_findTold_167, eX12_findTold_145_10, eX12_findTold_143, eX12_findTold_144, eX12_findTold_128, eX12_findTold_129, eX12_findTold_168, m_isFind, hF.2.2.1, in_n (n := n) (by omega) (Or.inr h)]
  · obtain ⟨h1, h2, ⟨⟨k, hk, h0⟩, h3⟩, h4⟩ := hF.2.2.2.2.1 i hi
    refine ⟨_, ?_, m_findTold (d + 1) _ _ _ _ _ _ _ _ hn hF.2.2.1 i hi hk h0 u⟩
    rw [xX11_findTold]
    simp only [px_bd_s, px_psh_s, px_psh_n, px_vb_s, px_ib_s, px_wb_s, px_bo_s, px_bo_n, Bool.cond_decide, cond_true, cond_false, ite_not, Bool.and_true, if_true, if_false, not_true_eq_false, not_false_eq_true, i10, eq_self, decide_true, decide_false, Bool.or_true, Bool.true_or, Bool.or_false, Bool.false_or, eX11_findTold_0, eX11_findTold_0_4, eX11_findTold_0_4_b, eX11_findTold_18, eX11_findTold_23, eX11_findTold_18_3, eX11_findTold_18_2, c_findAt_y _ _ _ _ _ _ _ _ _ hn hF.2.1 i hi h1, fd_isc h2, c_item _ _ _ _ _ _ _ _ _ h2 hk h0]
    have e7 : fdF (M 77) (M 78) (M 79) (M 80) (M 81) (M 83) (M 84) i 7 = if M 83 i < 0 then -1 else M 83 i := rfl
    have e8 : fdF (M 77) (M 78) (M 79) (M 80) (M 81) (M 83) (M 84) i 8 = if M 83 i < 0 then -1 else M 84 i := rfl
    have e71 : (fdF (M 77) (M 78) (M 79) (M 80) (M 81) (M 83) (M 84) i 7 = -1) ↔ M 83 i < 0 := by
      rw [e7]
      split
      · rename_i q; exact ⟨fun _ => q, fun _ => rfl⟩
      · rename_i q
        refine ⟨fun h => ?_, fun h => absurd h q⟩
        rw [h]
        decide
    simp only [e71, e7, e8]
    rw [show fdF (M 77) (M 78) (M 79) (M 80) (M 81) (M 83) (M 84) i 0 = M 77 i from rfl, show fdF (M 77) (M 78) (M 79) (M 80) (M 81) (M 83) (M 84) i 1 = M 78 i from rfl, show fdF (M 77) (M 78) (M 79) (M 80) (M 81) (M 83) (M 84) i 2 = M 79 i from rfl, show fdF (M 77) (M 78) (M 79) (M 80) (M 81) (M 83) (M 84) i 3 = M 80 i from rfl, show fdF (M 77) (M 78) (M 79) (M 80) (M 81) (M 83) (M 84) i 4 = M 81 i from rfl, ← Int32.mul_assoc]
    by_cases q : M 83 i < 0
    · simp only [if_pos q, if_true]
    · have hne : ¬ M 83 i = -1 := fun h => q (by rw [h]; decide)
      simp only [if_neg q, if_neg hne]
end S24
