/-! PART 25: TAKEN, TANK, TANK TOLD, HOLE, TAKE -/
theorem lesc {a b v : Int32} (h : b.toInt = a.toInt + 1) : b ≤ v ↔ ¬ v ≤ a := by
  rw [Int32.le_iff_toInt_le, Int32.le_iff_toInt_le]
  omega
theorem ltsc {a b v : Int32} (h : b.toInt = a.toInt + 1) : v < b ↔ v ≤ a := by
  rw [Int32.lt_iff_toInt_lt, Int32.le_iff_toInt_le]
  omega
def grow (D D2 : px_H) : Prop := D2.length ≤ D.length + 2 ∧ px_sz D2 ≤ px_sz D + 20
theorem grow.rf (D : px_H) : grow D D := ⟨by omega, by omega⟩
def gr0 (D D2 : px_H) : Prop := D2.length = D.length ∧ px_sz D2 = px_sz D
theorem gr0.tr {D D2 D3 : px_H} (h : gr0 D D2) (h2 : gr0 D2 D3) : gr0 D D3 := ⟨h2.1.trans h.1, h2.2.trans h.2⟩
theorem gr0.g {D D2 : px_H} (h : gr0 D D2) : grow D D2 := ⟨by rw [h.1]; omega, by rw [h.2]; omega⟩
theorem fd_fr {D : px_H} {p : Nat} {F0 H0 : Nat → Int32} (h : fdAt D p F0 H0) (F : Nat → Int32) : (∀ q F' H', q ≠ p → fdAt D q F' H' → fdAt (D.set p (fdc p F)) q F' H') ∧ (∀ q V, dvAt D q V → dvAt (D.set p (fdc p F)) q V) ∧ gr0 D (D.set p (fdc p F)) := by
  refine ⟨fun q F' H' hq h' => fdAt_ne h' _ (fun z => hq z.symm) (fd_fd h' h), fun q V h' => dvAt_ne h' _ (dv_fd h' h).1, ?_, ?_⟩
  · rw [List.length_set]
  · rw [px_sz_set D p (fdc p F0) (fdc p F) h.1 rfl]
theorem fd_frH {D : px_H} {p : Nat} {F0 H0 : Nat → Int32} (h : fdAt D p F0 H0) (H : Nat → Int32) : (∀ q F' H', q ≠ p → fdAt D q F' H' → fdAt (D.set (p + 1) (.inl (0, 8, .inl H))) q F' H') ∧ (∀ q V, dvAt D q V → dvAt (D.set (p + 1) (.inl (0, 8, .inl H))) q V) ∧ gr0 D (D.set (p + 1) (.inl (0, 8, .inl H))) := by
  refine ⟨fun q F' H' hq h' => fdAt_ne h' _ (fun z => fd_fd h h' z.symm) (fun z => hq (by omega)), fun q V h' => dvAt_ne h' _ (dv_fd h' h).2, ?_, ?_⟩
  · rw [List.length_set]
  · rw [px_sz_set D (p + 1) (.inl (0, 8, .inl H0)) (.inl (0, 8, .inl H)) h.2 rfl]
theorem IFn_upd {n : Nat} {P : Nat → Nat} {H : Nat → Nat → Int32} {n28 n67 : Int32} {R29 : Nat → Option Nat} {D D' : px_H} {kd sq la sz hc hl tk cm hc' hl' tk' cm' Hi : Nat → Int32} (hF : IFn n P H n28 n67 R29 D kd sq la sz hc hl tk cm) {i : Nat} (hi : i < n)
    (h1 : ∀ j, j ≠ i → hc' j = hc j ∧ tk' j = tk j ∧ cm' j = cm j) (h2 : ∀ j k, j ≠ i → k < 8 → hl' (8 * j + k) = hl (8 * j + k)) (h3 : fdAt D' (P i) (fdF kd sq la sz hc' tk' cm' i) Hi) (h4 : ∀ q F' H', q ≠ P i → fdAt D q F' H' → fdAt D' q F' H') (h5 : fdR kd sq la sz hc' tk' i) (h6 : ∀ k, k < 8 → nI k < hc' i → hl' (8 * i + k) = Hi k) :
    IFn n P (fun j => if j = i then Hi else H j) n28 n67 R29 D' kd sq la sz hc' hl' tk' cm' := by
  refine ⟨hF.1, hF.2.1, hF.2.2.1, hF.2.2.2.1, fun j hj => ?_, fun j hj hj2 => ?_⟩
  · obtain ⟨a1, a2, a3, a4⟩ := hF.2.2.2.2.1 j hj
    by_cases hji : j = i
    · subst hji
      refine ⟨a1, ?_, h5, ?_⟩
      · dsimp only; rw [if_pos rfl]; exact h3
      · dsimp only; rw [if_pos rfl]; exact h6
    · obtain ⟨b1, b2, b3⟩ := h1 j hji
      refine ⟨a1, ?_, ?_, ?_⟩
      · dsimp only
        rw [if_neg hji, fdF_c rfl rfl rfl rfl b1 b2 b3]
        exact h4 _ _ _ (fun z => hji (hF.2.2.2.1 j i hj hi z)) a2
      · unfold fdR
        rw [b1, b2]
        exact a3
      · dsimp only
        rw [if_neg hji, b1]
        intro k hk hk2
        rw [h2 j k hji hk]
        exact a4 k hk hk2
  · rw [(h1 j (by omega)).1]
    exact hF.2.2.2.2.2 j hj hj2
section S25
variable (d : Nat) (M : Nat → Nat → Int32) (J : Nat → Nat → Int64) (R : Nat → Nat → Option Nat) (c e nL : Nat) (xs : Nat → Int32) (D : px_H)
theorem c_isDay (v : Int32) : px_ex px_tab (d + 1) 137 [Value.int (v)] (hp (M) (J) (R) (c) (e) nL xs (D)) = some (some (Value.int (px_in v 0 999)), (hp (M) (J) (R) (c) (e) nL xs (D))) := by
  rw [xX11_isDay]
  simp only [px_bd_s, px_psh_s, px_psh_n, px_vb_s, px_ib_s, px_wb_s, px_bo_s, px_bo_n, Bool.cond_decide, cond_true, cond_false, ite_not, Bool.and_true, if_true, if_false, not_true_eq_false, not_false_eq_true, i10, eq_self, decide_true, decide_false, Bool.or_true, Bool.true_or, Bool.or_false, Bool.false_or, eX11_isDay_0, eX11_isDay_15, eX11_isDay_16, lesc (a := 999) (b := 1000) rfl]
  by_cases h1 : v < 0
  · rw [px_in_00 (fun q => Int32.not_lt.mpr q.1 h1)]
    simp [h1]
  · by_cases h2 : v ≤ 999
    · rw [px_in_1 ⟨Int32.not_lt.mp h1, h2⟩]
      simp [h1, h2]
    · rw [px_in_00 (fun q => h2 q.2)]
      simp [h1, h2]
theorem m_isDay (v : Int32) : px_ex px_tab (d + 2) 168 [Value.int (v)] (hp (M) (J) (R) (c) (e) nL xs (D)) = some (some (Value.int (px_in v 0 999)), (hp (M) (J) (R) (c) (e) nL xs (D))) := by
  rw [xX12_isDay]
  simp only [px_bd_s, px_psh_s, px_psh_n, px_vb_s, px_ib_s, px_wb_s, px_bo_s, px_bo_n, Bool.cond_decide, cond_true, cond_false, ite_not, Bool.and_true, if_true, if_false, not_true_eq_false, not_false_eq_true, i10, eq_self, decide_true, decide_false, Bool.or_true, Bool.true_or, Bool.or_false, Bool.false_or, eX12_isDay_0, eX12_isDay_0_4, c_in]
  rcases px_in_01 v 0 999 with h | h <;> simp [h]
/-- under a kind -/
def und (k : Nat) (v : Int32) : Prop := v = 0 ∨ nI k = v ∨ (k = 5 ∧ v = 3)
theorem und_step {a s : Nat} (ha : a < 6) (hs : s < 6) (v : Int32) (o : Option Value) : px_run (px_mk (kX2_isUnder (px_ex px_tab d))) 7 ([o, some (Value.int (v)), some (Value.int (nI a)), some (Value.int (nI s))], [], (hp (M) (J) (R) (c) (e) nL xs (D))) = if nI a = v then some (some (Value.int (1)), (hp (M) (J) (R) (c) (e) nL xs (D))) else px_run (px_mk (kX2_isUnder (px_ex px_tab d))) 7 ([none, some (Value.int (v)), some (Value.int (px_KA a)), some (Value.int (nI (s + 1)))], [], (hp (M) (J) (R) (c) (e) nL xs (D))) := by
  rw [eX2_isUnder_7]
  simp (disch := omega) only [px_bd_s, px_psh_s, px_psh_n, px_vb_s, px_ib_s, px_wb_s, px_bo_s, px_bo_n, Bool.cond_decide, cond_true, cond_false, ite_not, Bool.and_true, if_true, if_false, not_true_eq_false, not_false_eq_true, i10, eq_self, decide_true, decide_false, Bool.or_true, Bool.true_or, Bool.or_false, Bool.false_or, za0, zb0, zc0, zd0, ze0, zf0, za1, zb1, zc1, zd1, ze1, zf1, za2, zb2, zc2, zd2, ze2, zf2, za3, zb3, zc3, zd3, ze3, zf3, za4, zb4, zc4, zd4, ze4, zf4, za5, zb5, zc5, zd5, ze5, zf5, za6, zb6, zc6, zd6, ze6, zf6, za7, zb7, zc7, zd7, ze7, zf7, za8, zb8, zc8, zd8, ze8, zf8, za9, zb9, zc9, zd9, ze9, zf9, za10, zb10, zc10, zd10, ze10, zf10, za20, zb20, zc20, zd20, ze20, zf20, za24, zb24, zc24, zd24, ze24, zf24, za39, zb39, zc39, zd39, ze39, zf39, za40, zb40, zc40, zd40, ze40, zf40, za50, zb50, zc50, zd50, ze50, zf50, za51, zb51, zc51, zd51, ze51, zf51, za60, zb60, zc60, zd60, ze60, zf60, za90, zb90, zc90, zd90, ze90, zf90, za99, zb99, zc99, zd99, ze99, zf99, za100, zb100, zc100, zd100, ze100, zf100, za101, zb101, zc101, zd101, ze101, zf101, za120, zb120, zc120, zd120, ze120, zf120, za160, zb160, zc160, zd160, ze160, zf160, za200, zb200, zc200, zd200, ze200, zf200, za400, zb400, zc400, zd400, ze400, zf400, za999, zb999, zc999, zd999, ze999, zf999, za1000, zb1000, zc1000, zd1000, ze1000, zf1000, za1440, zb1440, zc1440, zd1440, ze1440, zf1440, zp1, zp2, zp3, zp8, zp40, zq8, zq10, zq40, nI_leI, nI_ltI, nI_eq, px_inbT, nI_clamp, nI_add, pk_m1, if_pos, if_neg, eX2_isUnder_30]
theorem und_end (s v : Int32) : px_run (px_mk (kX2_isUnder (px_ex px_tab d))) 7 ([none, some (Value.int (v)), some (Value.int (-1)), some (Value.int (s))], [], (hp (M) (J) (R) (c) (e) nL xs (D))) = some (some (Value.int (0)), (hp (M) (J) (R) (c) (e) nL xs (D))) := by
  rw [eX2_isUnder_7]
  simp [px_bd_s, px_psh_s, px_psh_n, px_vb_s, px_ib_s, px_wb_s, px_bo_s, px_bo_n, Bool.cond_decide, cond_true, cond_false, ite_not, Bool.and_true, if_true, if_false, not_true_eq_false, not_false_eq_true, i10, eq_self, decide_true, decide_false, Bool.or_true, Bool.true_or, Bool.or_false, Bool.false_or, eX2_isUnder_42]
theorem c_isUnder {p : Nat} {F H : Nat → Int32} (h : fdAt D p F H) {k : Nat} (hk : k ≤ 5) (h0 : F 0 = nI k) (v : Int32) : (und k v → px_ex px_tab (d + 1) 24 [Value.ref (111 + p), Value.int (v)] (hp (M) (J) (R) (c) (e) nL xs (D)) = some (some (Value.int (1)), (hp (M) (J) (R) (c) (e) nL xs (D)))) ∧ (¬ und k v → px_ex px_tab (d + 1) 24 [Value.ref (111 + p), Value.int (v)] (hp (M) (J) (R) (c) (e) nL xs (D)) = some (some (Value.int (0)), (hp (M) (J) (R) (c) (e) nL xs (D)))) := by
  rw [xX2_isUnder]
  simp only [px_bd_s, px_psh_s, px_psh_n, px_vb_s, px_ib_s, px_wb_s, px_bo_s, px_bo_n, Bool.cond_decide, cond_true, cond_false, ite_not, Bool.and_true, if_true, if_false, not_true_eq_false, not_false_eq_true, i10, eq_self, decide_true, decide_false, Bool.or_true, Bool.true_or, Bool.or_false, Bool.false_or, eX2_isUnder_0, eX2_isUnder_0_1, eX2_isUnder_0_2, fd_g0 h, h0]
  rw [show (0 : Int32) = nI 0 from rfl, und_step _ _ _ _ _ _ _ _ _ (by omega) (by decide)]
  have z : ∀ s : Nat, s < 6 → px_run (px_mk (kX2_isUnder (px_ex px_tab d))) 7 ([none, some (Value.int (v)), some (Value.int (nI 0)), some (Value.int (nI s))], [], (hp (M) (J) (R) (c) (e) nL xs (D))) = if nI 0 = v then some (some (Value.int (1)), (hp (M) (J) (R) (c) (e) nL xs (D))) else some (some (Value.int (0)), (hp (M) (J) (R) (c) (e) nL xs (D))) := by
    intro s hs
    rw [und_step _ _ _ _ _ _ _ _ _ (by decide) hs, show px_KA 0 = -1 from rfl, und_end]
  unfold und
  rcases (by omega : k = 0 ∨ k = 1 ∨ k = 2 ∨ k = 3 ∨ k = 4 ∨ k = 5) with rfl | rfl | rfl | rfl | rfl | rfl
  · rw [show px_KA 0 = -1 from rfl, und_end, nI_0]
    by_cases h1 : (0 : Int32) = v
    · simp [h1]
    · have g1 : ¬ v = 0 := fun q => h1 q.symm
      simp [h1, g1]
  · rw [show px_KA 1 = nI 0 from rfl, z 1 (by decide), nI_0]
    by_cases h1 : nI 1 = v
    · simp [h1]
    · by_cases h2 : (0 : Int32) = v
      · simp [h1, h2]
      · have g1 : ¬ v = 0 := fun q => h2 q.symm
        simp [h1, h2, g1]
  · rw [show px_KA 2 = nI 0 from rfl, z 1 (by decide), nI_0]
    by_cases h1 : nI 2 = v
    · simp [h1]
    · by_cases h2 : (0 : Int32) = v
      · simp [h1, h2]
      · have g1 : ¬ v = 0 := fun q => h2 q.symm
        simp [h1, h2, g1]
  · rw [show px_KA 3 = nI 0 from rfl, z 1 (by decide), nI_0]
    by_cases h1 : nI 3 = v
    · simp [h1]
    · by_cases h2 : (0 : Int32) = v
      · simp [h1, h2]
      · have g1 : ¬ v = 0 := fun q => h2 q.symm
        simp [h1, h2, g1]
  · rw [show px_KA 4 = nI 0 from rfl, z 1 (by decide), nI_0]
    by_cases h1 : nI 4 = v
    · simp [h1]
    · by_cases h2 : (0 : Int32) = v
      · simp [h1, h2]
      · have g1 : ¬ v = 0 := fun q => h2 q.symm
        simp [h1, h2, g1]
  · rw [show px_KA 5 = nI 3 from rfl, und_step _ _ _ _ _ _ _ _ _ (by decide) (by decide), show px_KA 3 = nI 0 from rfl, z 2 (by decide), nI_0]
    by_cases h1 : nI 5 = v
    · simp [h1]
    · by_cases h3 : nI 3 = v
      · simp [h1, h3, show v = 3 from h3.symm]
      · by_cases h2 : (0 : Int32) = v
        · simp [h1, h2, h3]
        · have g1 : ¬ v = 0 := fun q => h2 q.symm
          have g2 : ¬ v = 3 := fun q => h3 q.symm
          simp [h1, h2, h3, g1, g2]
theorem m_isUnder {k : Nat} (hk : k ≤ 5) (v : Int32) : (und k v → px_ex px_tab (d + 1) 190 [Value.int (nI k), Value.int (v)] (hp (M) (J) (R) (c) (e) nL xs (D)) = some (some (Value.int (1)), (hp (M) (J) (R) (c) (e) nL xs (D)))) ∧ (¬ und k v → px_ex px_tab (d + 1) 190 [Value.int (nI k), Value.int (v)] (hp (M) (J) (R) (c) (e) nL xs (D)) = some (some (Value.int (0)), (hp (M) (J) (R) (c) (e) nL xs (D)))) := by
  rw [xX12_isUnder]
  simp (disch := omega) only [px_bd_s, px_psh_s, px_psh_n, px_vb_s, px_ib_s, px_wb_s, px_bo_s, px_bo_n, Bool.cond_decide, cond_true, cond_false, ite_not, Bool.and_true, if_true, if_false, not_true_eq_false, not_false_eq_true, i10, eq_self, decide_true, decide_false, Bool.or_true, Bool.true_or, Bool.or_false, Bool.false_or, za0, zb0, zc0, zd0, ze0, zf0, za1, zb1, zc1, zd1, ze1, zf1, za2, zb2, zc2, zd2, ze2, zf2, za3, zb3, zc3, zd3, ze3, zf3, za4, zb4, zc4, zd4, ze4, zf4, za5, zb5, zc5, zd5, ze5, zf5, za6, zb6, zc6, zd6, ze6, zf6, za7, zb7, zc7, zd7, ze7, zf7, za8, zb8, zc8, zd8, ze8, zf8, za9, zb9, zc9, zd9, ze9, zf9, za10, zb10, zc10, zd10, ze10, zf10, za20, zb20, zc20, zd20, ze20, zf20, za24, zb24, zc24, zd24, ze24, zf24, za39, zb39, zc39, zd39, ze39, zf39, za40, zb40, zc40, zd40, ze40, zf40, za50, zb50, zc50, zd50, ze50, zf50, za51, zb51, zc51, zd51, ze51, zf51, za60, zb60, zc60, zd60, ze60, zf60, za90, zb90, zc90, zd90, ze90, zf90, za99, zb99, zc99, zd99, ze99, zf99, za100, zb100, zc100, zd100, ze100, zf100, za101, zb101, zc101, zd101, ze101, zf101, za120, zb120, zc120, zd120, ze120, zf120, za160, zb160, zc160, zd160, ze160, zf160, za200, zb200, zc200, zd200, ze200, zf200, za400, zb400, zc400, zd400, ze400, zf400, za999, zb999, zc999, zd999, ze999, zf999, za1000, zb1000, zc1000, zd1000, ze1000, zf1000, za1440, zb1440, zc1440, zd1440, ze1440, zf1440, zp1, zp2, zp3, zp8, zp40, zq8, zq10, zq40, nI_leI, nI_ltI, nI_eq, px_inbT, nI_clamp, nI_add, pk_m1, if_pos, if_neg, eX12_isUnder_0, eX12_isUnder_19, eX12_isUnder_23, eX12_isUnder_24]
  unfold und
  by_cases h1 : v = 0
  · simp [h1]
  · by_cases h2 : nI k = v
    · simp [h1, h2]
    · by_cases h3 : k = 5
      · by_cases h4 : v = 3 <;> simp [h1, h2, h3, h4]
      · simp [h1, h2, h3]
theorem t_taken (hI : IFd M R D) (v u : Int32) : ∃ w, px_ex px_tab (d + 4) 163 [Value.ref (13), Value.int (v), Value.int (u)] (hp (M) (J) (R) (c) (e) nL xs (D)) = some (some (Value.int (w)), (hp (M) (J) (R) (c) (e) nL xs (D))) ∧ px_ex px_tab (d + 4) 255 [Value.ref (67), Value.int (v), Value.int (u)] (hp (M) (J) (R) (c) (e) nL xs (D)) = some (some (Value.int (w)), (hp (M) (J) (R) (c) (e) nL xs (D))) := by
  obtain ⟨n, P, H, hF⟩ := hI
  have hn := hF.1
  rw [xX11_taken, xX12_taken]
  simp only [px_bd_s, px_psh_s, px_psh_n, px_vb_s, px_ib_s, px_wb_s, px_bo_s, px_bo_n, Bool.cond_decide, cond_true, cond_false, ite_not, Bool.and_true, if_true, if_false, not_true_eq_false, not_false_eq_true, i10, eq_self, decide_true, decide_false, Bool.or_true, Bool.true_or, Bool.or_false, Bool.false_or, eX11_taken_0, eX12_taken_0, eX12_taken_0_4, c_in, ltsc (a := 5) (b := 6) rfl]
  by_cases hu : 0 ≤ u ∧ u ≤ 5
  · simp only [px_in_1 hu, Int32.not_lt.mpr hu.1, hu.2, if_true, if_false]
    rcases pk_ix v (n := n) (by omega) with h | h | ⟨i, hi, rfl⟩
    · refine ⟨-11, ?_, ?_⟩
      · simp only [px_bd_s, px_psh_s, px_psh_n, px_vb_s, px_ib_s, px_wb_s, px_bo_s, px_bo_n, Bool.cond_decide, cond_true, cond_false, ite_not, Bool.and_true, if_true, if_false, not_true_eq_false, not_false_eq_true, i10, eq_self, decide_true, decide_false, Bool.or_true, Bool.true_or, Bool.or_false, Bool.false_or, eX11_taken_10, eX11_taken_13, eX11_taken_13_4, eX11_taken_13_4_b, eX11_taken_29, eX11_taken_29_2, eX11_taken_29_3, eX11_taken_44, eX11_taken_29_5, eX11_taken_46, eX11_taken_29_6, c_findAt_n _ _ _ _ _ _ _ _ _ hF.2.1 v (Or.inl h)]
      · simp [px_bd_s, px_psh_s, px_psh_n, px_vb_s, px_ib_s, px_wb_s, px_bo_s, px_bo_n, Bool.cond_decide, cond_true, cond_false, ite_not, Bool.and_true, if_true, if_false, not_true_eq_false, not_false_eq_true, i10, eq_self, decide_true, decide_false, Bool.or_true, Bool.true_or, Bool.or_false, Bool.false_or, eX12_taken_12, eX12_taken_12_3, eX12_taken_23, eX12_taken_23_6, eX12_taken_45, eX12_taken_47, m_isFind, hF.2.2.1, in_n (n := n) (by omega) (Or.inl h)]
    · refine ⟨-11, ?_, ?_⟩
      · simp only [px_bd_s, px_psh_s, px_psh_n, px_vb_s, px_ib_s, px_wb_s, px_bo_s, px_bo_n, Bool.cond_decide, cond_true, cond_false, ite_not, Bool.and_true, if_true, if_false, not_true_eq_false, not_false_eq_true, i10, eq_self, decide_true, decide_false, Bool.or_true, Bool.true_or, Bool.or_false, Bool.false_or, eX11_taken_10, eX11_taken_13, eX11_taken_13_4, eX11_taken_13_4_b, eX11_taken_29, eX11_taken_29_2, eX11_taken_29_3, eX11_taken_44, eX11_taken_29_5, eX11_taken_46, eX11_taken_29_6, c_findAt_n _ _ _ _ _ _ _ _ _ hF.2.1 v (Or.inr h)]
      · simp [px_bd_s, px_psh_s, px_psh_n, px_vb_s, px_ib_s, px_wb_s, px_bo_s, px_bo_n, Bool.cond_decide, cond_true, cond_false, ite_not, Bool.and_true, if_true, if_false, not_true_eq_false, not_false_eq_true, i10, eq_self, decide_true, decide_false, Bool.or_true, Bool.true_or, Bool.or_false, Bool.false_or, eX12_taken_12, eX12_taken_12_3, eX12_taken_23, eX12_taken_23_6, eX12_taken_45, eX12_taken_47, m_isFind, hF.2.2.1, in_n (n := n) (by omega) (Or.inr h)]
    · obtain ⟨h1, h2, ⟨⟨k, hk, h0⟩, h3⟩, h4⟩ := hF.2.2.2.2.1 i hi
      by_cases hd : und k u
      · refine ⟨M 78 i, ?_, ?_⟩
        · simp only [px_bd_s, px_psh_s, px_psh_n, px_vb_s, px_ib_s, px_wb_s, px_bo_s, px_bo_n, Bool.cond_decide, cond_true, cond_false, ite_not, Bool.and_true, if_true, if_false, not_true_eq_false, not_false_eq_true, i10, eq_self, decide_true, decide_false, Bool.or_true, Bool.true_or, Bool.or_false, Bool.false_or, eX11_taken_10, eX11_taken_13, eX11_taken_13_4, eX11_taken_13_4_b, eX11_taken_29, eX11_taken_29_2, eX11_taken_29_3, eX11_taken_44, eX11_taken_29_5, eX11_taken_46, eX11_taken_29_6, c_findAt_y _ _ _ _ _ _ _ _ _ hn hF.2.1 i hi h1, fd_isc h2, (c_isUnder _ _ _ _ _ _ _ _ _ h2 hk h0 u).1 hd, fd_g1 h2]
          rfl
        · simp (disch := omega) [px_bd_s, px_psh_s, px_psh_n, px_vb_s, px_ib_s, px_wb_s, px_bo_s, px_bo_n, Bool.cond_decide, cond_true, cond_false, ite_not, Bool.and_true, if_true, if_false, not_true_eq_false, not_false_eq_true, i10, eq_self, decide_true, decide_false, Bool.or_true, Bool.true_or, Bool.or_false, Bool.false_or, eX12_taken_12, eX12_taken_12_3, eX12_taken_23, eX12_taken_23_6, eX12_taken_45, eX12_taken_47, m_isFind, hF.2.2.1, in_y hi, h0, (m_isUnder _ _ _ _ _ _ _ _ _ hk u).1 hd, px_inbT, nI_clamp]
      · refine ⟨-13, ?_, ?_⟩
        · simp only [px_bd_s, px_psh_s, px_psh_n, px_vb_s, px_ib_s, px_wb_s, px_bo_s, px_bo_n, Bool.cond_decide, cond_true, cond_false, ite_not, Bool.and_true, if_true, if_false, not_true_eq_false, not_false_eq_true, i10, eq_self, decide_true, decide_false, Bool.or_true, Bool.true_or, Bool.or_false, Bool.false_or, eX11_taken_10, eX11_taken_13, eX11_taken_13_4, eX11_taken_13_4_b, eX11_taken_29, eX11_taken_29_2, eX11_taken_29_3, eX11_taken_44, eX11_taken_29_5, eX11_taken_46, eX11_taken_29_6, c_findAt_y _ _ _ _ _ _ _ _ _ hn hF.2.1 i hi h1, fd_isc h2, (c_isUnder _ _ _ _ _ _ _ _ _ h2 hk h0 u).2 hd, fd_g1 h2]
          all_goals simp
        · simp (disch := omega) [px_bd_s, px_psh_s, px_psh_n, px_vb_s, px_ib_s, px_wb_s, px_bo_s, px_bo_n, Bool.cond_decide, cond_true, cond_false, ite_not, Bool.and_true, if_true, if_false, not_true_eq_false, not_false_eq_true, i10, eq_self, decide_true, decide_false, Bool.or_true, Bool.true_or, Bool.or_false, Bool.false_or, eX12_taken_12, eX12_taken_12_3, eX12_taken_23, eX12_taken_23_6, eX12_taken_45, eX12_taken_47, m_isFind, hF.2.2.1, in_y hi, h0, (m_isUnder _ _ _ _ _ _ _ _ _ hk u).2 hd, px_inbT, nI_clamp]
  · refine ⟨-2, ?_, ?_⟩
    · by_cases h1 : u < 0
      · simp [h1, eX11_taken_10]
      · have h2 : ¬ u ≤ 5 := fun q => hu ⟨Int32.not_lt.mp h1, q⟩
        simp [h1, h2, eX11_taken_10]
    · simp [px_in_00 hu]
end S25
