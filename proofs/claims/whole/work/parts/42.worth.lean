/-! PART 42: RULES: bars, class and model; WORTH, WHY, LIFT -/
def cdf (op : Nat → Int32) (i : Nat) : Nat := (op i).toNatClampNeg
/-- the class's rule and the model's are one -/
def IRc (nb : Nat) (pt : Nat → Nat) (cb mb : Int32) (en sp opd op vl pr : Nat → Int32) : Prop := nb ≤ 6 ∧ cb = nI nb ∧ mb = nI nb ∧ pt 0 = 0 ∧ (∀ b, b ≤ nb → pr b = nI (pt b) ∧ pt b ≤ pt nb) ∧ pt nb ≤ 160 ∧ (∀ b, b < nb → en b = nI (pt (b + 1)) ∧ pt b ≤ pt (b + 1) ∧ wfR (cdf op) (pt (b + 1) - pt b) (pt b) 0) ∧ ∀ i, i < pt nb → sp i = nI (cls (cdf op i)) ∧ opd i = vl i ∧ op i = nI (cdf op i)
def IRl (M : Nat → Nat → Int32) (c e : Nat) : Prop := (c = 38 ∧ e = 43 ∧ ∃ nb pt, IRc nb pt (M 38 0) (M 67 38) (M 39) (M 40) (M 41) (M 96) (M 97) (M 98)) ∨ (c = 43 ∧ e = 38 ∧ ∃ nb pt, IRc nb pt (M 43 0) (M 67 38) (M 44) (M 45) (M 46) (M 96) (M 97) (M 98))
theorem IRl.fr {S K : List Nat} {M M' : Nat → Nat → Int32} {c e : Nat} (hf : frm S K M M') (hS : ∀ a ∈ [38, 39, 40, 41, 43, 44, 45, 46, 96, 97, 98], a ∉ S) (hK : 38 ∉ K) (h : IRl M c e) : IRl M' c e := by
  have e1 : ∀ a, a ≠ 67 → a ∈ [38, 39, 40, 41, 43, 44, 45, 46, 96, 97, 98] → M' a = M a := fun a h1 h2 => hf.1 a h1 (hS a h2)
  unfold IRl
  rw [e1 38 (by decide) (by decide), e1 39 (by decide) (by decide), e1 40 (by decide) (by decide), e1 41 (by decide) (by decide), e1 43 (by decide) (by decide), e1 44 (by decide) (by decide), e1 45 (by decide) (by decide), e1 46 (by decide) (by decide), e1 96 (by decide) (by decide), e1 97 (by decide) (by decide), e1 98 (by decide) (by decide), hf.2 38 hK]
  exact h
/-- what a bar comes to; the first bar that holds -/
def vbr (cd : Nat → Nat) (vl : Nat → Int32) (nm : Int32 → Int32) (pt : Nat → Nat) (b : Nat) : Int32 := evs cd vl nm (pt (b + 1) - pt b) (pt b) (fun _ => 0) 0 0
def fhd (v : Nat → Int32) : Nat → Nat → Int32
  | 0, _ => -1
  | g + 1, k => if v k = 0 then fhd v g (k + 1) else nI k
theorem fhd_s (v : Nat → Int32) (g k : Nat) : fhd v (g + 1) k = if v k = 0 then fhd v g (k + 1) else nI k := rfl
theorem fhd_or (v : Nat → Int32) : ∀ g k, fhd v g k = -1 ∨ ∃ j, j < k + g ∧ fhd v g k = nI j
  | 0, _ => Or.inl rfl
  | g + 1, k => by
    rw [fhd_s]
    split
    · rcases fhd_or v g (k + 1) with h | ⟨j, h1, h2⟩
      · exact Or.inl h
      · exact Or.inr ⟨j, by omega, h2⟩
    · exact Or.inr ⟨k, by omega, rfl⟩
section S42
variable (d : Nat) (J : Nat → Nat → Int64) (R : Nat → Nat → Option Nat) (c e nL : Nat) (xs : Nat → Int32) (D : px_H)
theorem c_valueOf_38 {nb p b : Nat} {pt : Nat → Nat} {F H : Nat → Int32} (M : Nat → Nat → Int32) (hI : IRc nb pt (M 38 0) (M 67 38) (M 39) (M 40) (M 41) (M 96) (M 97) (M 98)) (h : fdAt D p F H) (hb : b < nb) (y : Int32) : ∃ st, px_ex px_tab (d + 3) 43 [Value.ref (38), Value.int (nI b), Value.ref (111 + p), Value.int (y)] (hp (M) (J) (R) (c) (e) nL xs (D)) = some (some (Value.int (vbr (cdf (M 96)) (M 97) (nmv (F 0) (F 3) (F 2) (F 1) y) pt b)), (hp (px_uR M 42 st) (J) (R) (c) (e) nL xs (D))) := by
  obtain ⟨i1, i2, i3, i4, i5, i6, i7, i8⟩ := hI
  obtain ⟨b1, b2, b3⟩ := i7 b hb
  have b4 := (i5 (b + 1) (by omega)).2
  have hv := c_val_l_38 d J R c e nL xs D (b := b) (E := pt (b + 1)) (cd := (cdf (M 96))) (vl := M 97) h (by omega) (by omega) y (pt (b + 1) - pt b) (pt b) 0 (some (.int (nI (pt b)))) M b1 (fun i hi => ⟨(i8 i (by omega)).1, (i8 i (by omega)).2.1⟩) (by omega) b3
  rw [nI_0] at hv
  refine ⟨evs (cdf (M 96)) (M 97) (nmv (F 0) (F 3) (F 2) (F 1) y) (pt (b + 1) - pt b) (pt b) (M 42) 0, ?_⟩
  rw [show vbr (cdf (M 96)) (M 97) (nmv (F 0) (F 3) (F 2) (F 1) y) pt b = evs (cdf (M 96)) (M 97) (nmv (F 0) (F 3) (F 2) (F 1) y) (pt (b + 1) - pt b) (pt b) (M 42) 0 0 from evs_a _ _ _ _ _ _ _ _ b3 (fun i hi => by omega)]
  rw [xX4_valueOf, eX4_valueOf_38_0]
  by_cases h0 : b = 0
  · subst h0
    rw [i4, nI_0] at hv
    rw [i4, nI_0]
    simp only [px_bd_s, px_psh_s, px_psh_n, px_vb_s, px_ib_s, px_wb_s, px_bo_s, px_bo_n, Bool.cond_decide, cond_true, cond_false, ite_not, Bool.and_true, if_true, if_false, not_true_eq_false, not_false_eq_true, i10, eq_self, decide_true, decide_false, Bool.or_true, Bool.true_or, Bool.or_false, Bool.false_or, show (0 : Int32) ≤ 0 from Int32.le_refl _, eX4_valueOf_38_18, eX4_valueOf_38_19]
    exact hv
  · have e1 : M 39 (b - 1) = nI (pt b) := by
      have := (i7 (b - 1) (by omega)).1
      rw [show b - 1 + 1 = b from by omega] at this
      exact this
    simp (disch := omega) only [px_bd_s, px_psh_s, px_psh_n, px_vb_s, px_ib_s, px_wb_s, px_bo_s, px_bo_n, Bool.cond_decide, cond_true, cond_false, ite_not, Bool.and_true, if_true, if_false, not_true_eq_false, not_false_eq_true, i10, eq_self, decide_true, decide_false, Bool.or_true, Bool.true_or, Bool.or_false, Bool.false_or, zc0, if_neg, zm1, px_inbT, nI_clamp, e1, eX4_valueOf_38_19]
    exact hv
theorem c_first_l_38 {nb p : Nat} {pt : Nat → Nat} {F H : Nat → Int32} (h : fdAt D p F H) (y : Int32) : ∀ (g k : Nat) (M : Nat → Nat → Int32), IRc nb pt (M 38 0) (M 67 38) (M 39) (M 40) (M 41) (M 96) (M 97) (M 98) → k + g = nb → ∃ st, px_run (px_mk (kX4_firstHolding (px_ex px_tab (d + 3)))) 2 ([some (.ref 38), some (.ref (111 + p)), some (.int y), some (.int (nI k))], [], (hp M J R c e nL xs D)) = some (some (Value.int (fhd (vbr (cdf (M 96)) (M 97) (nmv (F 0) (F 3) (F 2) (F 1) y) pt) g k)), (hp (px_uR M 42 st) (J) (R) (c) (e) nL xs (D)))
  | 0, k, M, hI, hk => by
    have i1 := hI.1
    refine ⟨M 42, ?_⟩
    rw [eX4_firstHolding_38_2, hI.2.1, px_uR_id]
    simp (disch := omega) only [px_bd_s, px_psh_s, px_psh_n, px_vb_s, px_ib_s, px_wb_s, px_bo_s, px_bo_n, Bool.cond_decide, cond_true, cond_false, ite_not, Bool.and_true, if_true, if_false, not_true_eq_false, not_false_eq_true, i10, eq_self, decide_true, decide_false, Bool.or_true, Bool.true_or, Bool.or_false, Bool.false_or, nI_leI, if_pos, eX4_firstHolding_38_28]
    rfl
  | g + 1, k, M, hI, hk => by
    have i1 := hI.1
    obtain ⟨st, hv⟩ := c_valueOf_38 d J R c e nL xs D M hI h (show k < nb by omega) y
    obtain ⟨st2, hr⟩ := c_first_l_38 h y g (k + 1) (px_uR M 42 st) hI (by omega)
    rw [fhd_s]
    by_cases h0 : vbr (cdf (M 96)) (M 97) (nmv (F 0) (F 3) (F 2) (F 1) y) pt k = 0
    · refine ⟨st2, ?_⟩
      rw [px_uR_2] at hr
      rw [eX4_firstHolding_38_2, hI.2.1]
      simp (disch := omega) only [px_bd_s, px_psh_s, px_psh_n, px_vb_s, px_ib_s, px_wb_s, px_bo_s, px_bo_n, Bool.cond_decide, cond_true, cond_false, ite_not, Bool.and_true, if_true, if_false, not_true_eq_false, not_false_eq_true, i10, eq_self, decide_true, decide_false, Bool.or_true, Bool.true_or, Bool.or_false, Bool.false_or, nI_leI, if_neg, hv, eX4_firstHolding_38_2_9, h0, eX4_firstHolding_38_22, nI_1]
      exact hr
    · refine ⟨st, ?_⟩
      rw [eX4_firstHolding_38_2, hI.2.1]
      simp (disch := omega) only [px_bd_s, px_psh_s, px_psh_n, px_vb_s, px_ib_s, px_wb_s, px_bo_s, px_bo_n, Bool.cond_decide, cond_true, cond_false, ite_not, Bool.and_true, if_true, if_false, not_true_eq_false, not_false_eq_true, i10, eq_self, decide_true, decide_false, Bool.or_true, Bool.true_or, Bool.or_false, Bool.false_or, nI_leI, if_neg, hv, eX4_firstHolding_38_2_9, h0]
theorem c_firstHolding_38 {nb p : Nat} {pt : Nat → Nat} {F H : Nat → Int32} (M : Nat → Nat → Int32) (hI : IRc nb pt (M 38 0) (M 67 38) (M 39) (M 40) (M 41) (M 96) (M 97) (M 98)) (h : fdAt D p F H) (y : Int32) : ∃ st, px_ex px_tab (d + 4) 42 [Value.ref (38), Value.ref (111 + p), Value.int (y)] (hp (M) (J) (R) (c) (e) nL xs (D)) = some (some (Value.int (fhd (vbr (cdf (M 96)) (M 97) (nmv (F 0) (F 3) (F 2) (F 1) y) pt) nb 0)), (hp (px_uR M 42 st) (J) (R) (c) (e) nL xs (D))) := by
  obtain ⟨st, hr⟩ := c_first_l_38 d J R c e nL xs D h y nb 0 M hI (by omega)
  refine ⟨st, ?_⟩
  rw [xX4_firstHolding, eX4_firstHolding_38_0]
  exact hr
theorem c_valueOf_43 {nb p b : Nat} {pt : Nat → Nat} {F H : Nat → Int32} (M : Nat → Nat → Int32) (hI : IRc nb pt (M 43 0) (M 67 38) (M 44) (M 45) (M 46) (M 96) (M 97) (M 98)) (h : fdAt D p F H) (hb : b < nb) (y : Int32) : ∃ st, px_ex px_tab (d + 3) 43 [Value.ref (43), Value.int (nI b), Value.ref (111 + p), Value.int (y)] (hp (M) (J) (R) (c) (e) nL xs (D)) = some (some (Value.int (vbr (cdf (M 96)) (M 97) (nmv (F 0) (F 3) (F 2) (F 1) y) pt b)), (hp (px_uR M 47 st) (J) (R) (c) (e) nL xs (D))) := by
  obtain ⟨i1, i2, i3, i4, i5, i6, i7, i8⟩ := hI
  obtain ⟨b1, b2, b3⟩ := i7 b hb
  have b4 := (i5 (b + 1) (by omega)).2
  have hv := c_val_l_43 d J R c e nL xs D (b := b) (E := pt (b + 1)) (cd := (cdf (M 96))) (vl := M 97) h (by omega) (by omega) y (pt (b + 1) - pt b) (pt b) 0 (some (.int (nI (pt b)))) M b1 (fun i hi => ⟨(i8 i (by omega)).1, (i8 i (by omega)).2.1⟩) (by omega) b3
  rw [nI_0] at hv
  refine ⟨evs (cdf (M 96)) (M 97) (nmv (F 0) (F 3) (F 2) (F 1) y) (pt (b + 1) - pt b) (pt b) (M 47) 0, ?_⟩
  rw [show vbr (cdf (M 96)) (M 97) (nmv (F 0) (F 3) (F 2) (F 1) y) pt b = evs (cdf (M 96)) (M 97) (nmv (F 0) (F 3) (F 2) (F 1) y) (pt (b + 1) - pt b) (pt b) (M 47) 0 0 from evs_a _ _ _ _ _ _ _ _ b3 (fun i hi => by omega)]
  rw [xX4_valueOf, eX4_valueOf_43_0]
  by_cases h0 : b = 0
  · subst h0
    rw [i4, nI_0] at hv
    rw [i4, nI_0]
    simp only [px_bd_s, px_psh_s, px_psh_n, px_vb_s, px_ib_s, px_wb_s, px_bo_s, px_bo_n, Bool.cond_decide, cond_true, cond_false, ite_not, Bool.and_true, if_true, if_false, not_true_eq_false, not_false_eq_true, i10, eq_self, decide_true, decide_false, Bool.or_true, Bool.true_or, Bool.or_false, Bool.false_or, show (0 : Int32) ≤ 0 from Int32.le_refl _, eX4_valueOf_43_18, eX4_valueOf_43_19]
    exact hv
  · have e1 : M 44 (b - 1) = nI (pt b) := by
      have := (i7 (b - 1) (by omega)).1
      rw [show b - 1 + 1 = b from by omega] at this
      exact this
    simp (disch := omega) only [px_bd_s, px_psh_s, px_psh_n, px_vb_s, px_ib_s, px_wb_s, px_bo_s, px_bo_n, Bool.cond_decide, cond_true, cond_false, ite_not, Bool.and_true, if_true, if_false, not_true_eq_false, not_false_eq_true, i10, eq_self, decide_true, decide_false, Bool.or_true, Bool.true_or, Bool.or_false, Bool.false_or, zc0, if_neg, zm1, px_inbT, nI_clamp, e1, eX4_valueOf_43_19]
    exact hv
theorem c_first_l_43 {nb p : Nat} {pt : Nat → Nat} {F H : Nat → Int32} (h : fdAt D p F H) (y : Int32) : ∀ (g k : Nat) (M : Nat → Nat → Int32), IRc nb pt (M 43 0) (M 67 38) (M 44) (M 45) (M 46) (M 96) (M 97) (M 98) → k + g = nb → ∃ st, px_run (px_mk (kX4_firstHolding (px_ex px_tab (d + 3)))) 2 ([some (.ref 43), some (.ref (111 + p)), some (.int y), some (.int (nI k))], [], (hp M J R c e nL xs D)) = some (some (Value.int (fhd (vbr (cdf (M 96)) (M 97) (nmv (F 0) (F 3) (F 2) (F 1) y) pt) g k)), (hp (px_uR M 47 st) (J) (R) (c) (e) nL xs (D)))
  | 0, k, M, hI, hk => by
    have i1 := hI.1
    refine ⟨M 47, ?_⟩
    rw [eX4_firstHolding_43_2, hI.2.1, px_uR_id]
    simp (disch := omega) only [px_bd_s, px_psh_s, px_psh_n, px_vb_s, px_ib_s, px_wb_s, px_bo_s, px_bo_n, Bool.cond_decide, cond_true, cond_false, ite_not, Bool.and_true, if_true, if_false, not_true_eq_false, not_false_eq_true, i10, eq_self, decide_true, decide_false, Bool.or_true, Bool.true_or, Bool.or_false, Bool.false_or, nI_leI, if_pos, eX4_firstHolding_43_28]
    rfl
  | g + 1, k, M, hI, hk => by
    have i1 := hI.1
    obtain ⟨st, hv⟩ := c_valueOf_43 d J R c e nL xs D M hI h (show k < nb by omega) y
    obtain ⟨st2, hr⟩ := c_first_l_43 h y g (k + 1) (px_uR M 47 st) hI (by omega)
    rw [fhd_s]
    by_cases h0 : vbr (cdf (M 96)) (M 97) (nmv (F 0) (F 3) (F 2) (F 1) y) pt k = 0
    · refine ⟨st2, ?_⟩
      rw [px_uR_2] at hr
      rw [eX4_firstHolding_43_2, hI.2.1]
      simp (disch := omega) only [px_bd_s, px_psh_s, px_psh_n, px_vb_s, px_ib_s, px_wb_s, px_bo_s, px_bo_n, Bool.cond_decide, cond_true, cond_false, ite_not, Bool.and_true, if_true, if_false, not_true_eq_false, not_false_eq_true, i10, eq_self, decide_true, decide_false, Bool.or_true, Bool.true_or, Bool.or_false, Bool.false_or, nI_leI, if_neg, hv, eX4_firstHolding_43_2_9, h0, eX4_firstHolding_43_22, nI_1]
      exact hr
    · refine ⟨st, ?_⟩
      rw [eX4_firstHolding_43_2, hI.2.1]
      simp (disch := omega) only [px_bd_s, px_psh_s, px_psh_n, px_vb_s, px_ib_s, px_wb_s, px_bo_s, px_bo_n, Bool.cond_decide, cond_true, cond_false, ite_not, Bool.and_true, if_true, if_false, not_true_eq_false, not_false_eq_true, i10, eq_self, decide_true, decide_false, Bool.or_true, Bool.true_or, Bool.or_false, Bool.false_or, nI_leI, if_neg, hv, eX4_firstHolding_43_2_9, h0]
theorem c_firstHolding_43 {nb p : Nat} {pt : Nat → Nat} {F H : Nat → Int32} (M : Nat → Nat → Int32) (hI : IRc nb pt (M 43 0) (M 67 38) (M 44) (M 45) (M 46) (M 96) (M 97) (M 98)) (h : fdAt D p F H) (y : Int32) : ∃ st, px_ex px_tab (d + 4) 42 [Value.ref (43), Value.ref (111 + p), Value.int (y)] (hp (M) (J) (R) (c) (e) nL xs (D)) = some (some (Value.int (fhd (vbr (cdf (M 96)) (M 97) (nmv (F 0) (F 3) (F 2) (F 1) y) pt) nb 0)), (hp (px_uR M 47 st) (J) (R) (c) (e) nL xs (D))) := by
  obtain ⟨st, hr⟩ := c_first_l_43 d J R c e nL xs D h y nb 0 M hI (by omega)
  refine ⟨st, ?_⟩
  rw [xX4_firstHolding, eX4_firstHolding_43_0]
  exact hr
theorem m_work_l {f b E : Nat} (hf : f < 20) (hb : b < 6) (hE : E ≤ 160) (y : Int32) : ∀ (g k top : Nat) (o : Option Value) (M : Nat → Nat → Int32), M 98 (b + 1) = nI E → (∀ i, i < E → M 96 i = nI (cdf (M 96) i)) → k + g = E → wfR (cdf (M 96)) g k top → px_run (px_mk (kX12_worked (px_ex px_tab (d + 1)))) 11 ([some (.ref 67), some (.int (nI b)), some (.int (nI f)), some (.int y), some (.int (nI top)), some (.int (nI k)), o], [], (hp M J R c e nL xs D)) = some (some (Value.int (evs (cdf (M 96)) (M 97) (nmv (M 77 f) (M 80 f) (M 79 f) (M 78 f) y) g k (M 107) top 0)), (hp (px_uR M 107 (evs (cdf (M 96)) (M 97) (nmv (M 77 f) (M 80 f) (M 79 f) (M 78 f) y) g k (M 107) top)) (J) (R) (c) (e) nL xs (D)))
  | 0, k, top, o, M, h1, h2, hk, hw => by
    rw [eX12_worked_11]
    simp (disch := omega) only [px_bd_s, px_psh_s, px_psh_n, px_vb_s, px_ib_s, px_wb_s, px_bo_s, px_bo_n, Bool.cond_decide, cond_true, cond_false, ite_not, Bool.and_true, if_true, if_false, not_true_eq_false, not_false_eq_true, i10, eq_self, decide_true, decide_false, Bool.or_true, Bool.true_or, Bool.or_false, Bool.false_or, zp1, px_inbT, nI_clamp, h1, nI_leI, if_pos, eX12_worked_188, show (0 : Int32) = nI 0 from rfl]
    rw [show evs (cdf (M 96)) (M 97) (nmv (M 77 f) (M 80 f) (M 79 f) (M 78 f) y) 0 k (M 107) top = M 107 from rfl, px_uR_id]
  | g + 1, k, top, o, M, h1, h2, hk, hw => by
    have e2 := h2 k (by omega)
    obtain ⟨⟨h10, hok⟩, hw2⟩ := hw
    have fin : ∀ (top' : Nat) (st : Nat → Int32) (o : Option Value), stp ((cdf (M 96)) k) (M 97 k) (nmv (M 77 f) (M 80 f) (M 79 f) (M 78 f) y) (M 107) top = st → tpp ((cdf (M 96)) k) top = top' → px_run (px_mk (kX12_worked (px_ex px_tab (d + 1)))) 182 ([some (.ref 67), some (.int (nI b)), some (.int (nI f)), some (.int y), some (.int (nI top')), some (.int (nI k)), o], [], hp (px_uR M 107 st) J R c e nL xs D) = some (some (Value.int (evs (cdf (M 96)) (M 97) (nmv (M 77 f) (M 80 f) (M 79 f) (M 78 f) y) (g + 1) k (M 107) top 0)), (hp (px_uR M 107 (evs (cdf (M 96)) (M 97) (nmv (M 77 f) (M 80 f) (M 79 f) (M 78 f) y) (g + 1) k (M 107) top)) (J) (R) (c) (e) nL xs (D))) := by
      rintro top' st o rfl rfl
      rw [eX12_worked_182, nI_1, m_work_l hf hb hE y g (k + 1) _ none (px_uR M 107 (stp ((cdf (M 96)) k) (M 97 k) (nmv (M 77 f) (M 80 f) (M 79 f) (M 78 f) y) (M 107) top)) h1 h2 (by omega) hw2, px_uR_2]
      rfl
    generalize hj : cdf (M 96) k = j at *
    rw [eX12_worked_11]
    simp (disch := omega) only [px_bd_s, px_psh_s, px_psh_n, px_vb_s, px_ib_s, px_wb_s, px_bo_s, px_bo_n, Bool.cond_decide, cond_true, cond_false, ite_not, Bool.and_true, if_true, if_false, not_true_eq_false, not_false_eq_true, i10, eq_self, decide_true, decide_false, Bool.or_true, Bool.true_or, Bool.or_false, Bool.false_or, zp1, px_inbT, nI_clamp, h1, nI_leI, if_neg, e2, ze0, ze1]
    by_cases j0 : j = 0
    · subst j0
      rw [if_pos (Or.inl rfl)] at hok
      simp (disch := omega) only [px_bd_s, px_psh_s, px_psh_n, px_vb_s, px_ib_s, px_wb_s, px_bo_s, px_bo_n, Bool.cond_decide, cond_true, cond_false, ite_not, Bool.and_true, if_true, if_false, not_true_eq_false, not_false_eq_true, i10, eq_self, decide_true, decide_false, Bool.or_true, Bool.true_or, Bool.or_false, Bool.false_or, nI_0, eX12_worked_44, px_inbT, nI_clamp, eX12_worked_78, nI_1]
      exact fin (top + 1) _ none rfl rfl
    · simp only [if_neg j0]
      by_cases j1 : j = 1
      · subst j1
        rw [if_pos (Or.inr rfl)] at hok
        simp (disch := omega) only [px_bd_s, px_psh_s, px_psh_n, px_vb_s, px_ib_s, px_wb_s, px_bo_s, px_bo_n, Bool.cond_decide, cond_true, cond_false, ite_not, Bool.and_true, if_true, if_false, not_true_eq_false, not_false_eq_true, i10, eq_self, decide_true, decide_false, Bool.or_true, Bool.true_or, Bool.or_false, Bool.false_or, show ¬ nI 1 = 0 from by decide, eX12_worked_44, eX12_worked_65, px_inbT, nI_clamp, m_named _ _ _ _ _ _ _ _ _ hf, eX12_worked_65_8, eX12_worked_78, nI_1]
        exact fin (top + 1) _ none rfl rfl
      · have hj01 : ¬ (j = 0 ∨ j = 1) := by omega
        rw [if_neg hj01] at hok
        simp (disch := omega) only [if_neg j1, eX12_worked_85, px_bd_s, px_psh_s, px_psh_n, px_vb_s, px_ib_s, px_wb_s, px_bo_s, px_bo_n, Bool.cond_decide, cond_true, cond_false, ite_not, Bool.and_true, if_true, if_false, not_true_eq_false, not_false_eq_true, i10, eq_self, decide_true, decide_false, Bool.or_true, Bool.true_or, Bool.or_false, Bool.false_or, ze4]
        by_cases j4 : j = 4
        · subst j4
          rw [if_pos (Or.inl rfl)] at hok
          simp (disch := omega) only [if_true, zm1, px_inbT, nI_clamp, px_bd_s, px_psh_s, px_psh_n, px_vb_s, px_ib_s, px_wb_s, px_bo_s, px_bo_n, Bool.cond_decide, cond_true, cond_false, ite_not, Bool.and_true, if_true, if_false, not_true_eq_false, not_false_eq_true, i10, eq_self, decide_true, decide_false, Bool.or_true, Bool.true_or, Bool.or_false, Bool.false_or, eX12_worked_115, eX12_worked_116]
          have ff := fin top (upd (M 107) (top - 1) (if M 107 (top - 1) = 0 then 1 else 0)) none rfl rfl
          by_cases h0 : M 107 (top - 1) = 0
          · rw [if_pos h0] at ff ⊢
            exact ff
          · rw [if_neg h0] at ff ⊢
            exact ff
        · simp (disch := omega) only [if_neg j4, eX12_worked_120, px_bd_s, px_psh_s, px_psh_n, px_vb_s, px_ib_s, px_wb_s, px_bo_s, px_bo_n, Bool.cond_decide, cond_true, cond_false, ite_not, Bool.and_true, if_true, if_false, not_true_eq_false, not_false_eq_true, i10, eq_self, decide_true, decide_false, Bool.or_true, Bool.true_or, Bool.or_false, Bool.false_or, ze10]
          by_cases j10 : j = 10
          · subst j10
            rw [if_pos (Or.inr rfl)] at hok
            simp (disch := omega) only [if_true, zm1, px_inbT, nI_clamp, px_bd_s, px_psh_s, px_psh_n, px_vb_s, px_ib_s, px_wb_s, px_bo_s, px_bo_n, Bool.cond_decide, cond_true, cond_false, ite_not, Bool.and_true, if_true, if_false, not_true_eq_false, not_false_eq_true, i10, eq_self, decide_true, decide_false, Bool.or_true, Bool.true_or, Bool.or_false, Bool.false_or]
            exact fin top _ _ rfl rfl
          · have hj2 : ¬ (j = 4 ∨ j = 10) := by omega
            rw [if_neg hj2] at hok
            have ep : nI top + (-1) = nI (top - 1) := by
              rw [show top = top - 1 + 1 from by omega, pk_m1]
              rfl
            have t2 : top - 1 - 1 = top - 2 := by omega
            simp (disch := omega) only [if_neg j10, eX12_worked_149, eX12_worked_149_1, ep, zm1, px_inbT, nI_clamp, px_bd_s, px_psh_s, px_psh_n, px_vb_s, px_ib_s, px_wb_s, px_bo_s, px_bo_n, Bool.cond_decide, cond_true, cond_false, ite_not, Bool.and_true, if_true, if_false, not_true_eq_false, not_false_eq_true, i10, eq_self, decide_true, decide_false, Bool.or_true, Bool.true_or, Bool.or_false, Bool.false_or, m_two _ _ _ _ _ _ _ _ _ h10 hj01 hj2, eX12_worked_149_18, t2]
            refine fin (top - 1) _ _ ?_ ?_
            · unfold stp
              rw [if_neg j0, if_neg j1, if_neg j4, if_neg j10]
            · unfold tpp
              rw [if_neg hj01, if_neg hj2]
theorem m_worked {nb f b : Nat} {pt : Nat → Nat} {cb : Int32} {en sp opd : Nat → Int32} (M : Nat → Nat → Int32) (hI : IRc nb pt cb (M 67 38) en sp opd (M 96) (M 97) (M 98)) (hf : f < 20) (hb : b < nb) (y : Int32) : ∃ st, px_ex px_tab (d + 2) 230 [Value.ref (67), Value.int (nI b), Value.int (nI f), Value.int (y)] (hp (M) (J) (R) (c) (e) nL xs (D)) = some (some (Value.int (vbr (cdf (M 96)) (M 97) (nmv (M 77 f) (M 80 f) (M 79 f) (M 78 f) y) pt b)), (hp (px_uR M 107 st) (J) (R) (c) (e) nL xs (D))) := by
  obtain ⟨i1, i2, i3, i4, i5, i6, i7, i8⟩ := hI
  obtain ⟨b1, b2, b3⟩ := i7 b hb
  have b4 := (i5 (b + 1) (by omega)).2
  have hv := m_work_l d J R c e nL xs D (b := b) (E := pt (b + 1)) hf (by omega) (by omega) y (pt (b + 1) - pt b) (pt b) 0 none M (i5 (b + 1) (by omega)).1 (fun i hi => (i8 i (by omega)).2.2) (by omega) b3
  rw [nI_0] at hv
  refine ⟨evs (cdf (M 96)) (M 97) (nmv (M 77 f) (M 80 f) (M 79 f) (M 78 f) y) (pt (b + 1) - pt b) (pt b) (M 107) 0, ?_⟩
  rw [show vbr (cdf (M 96)) (M 97) (nmv (M 77 f) (M 80 f) (M 79 f) (M 78 f) y) pt b = evs (cdf (M 96)) (M 97) (nmv (M 77 f) (M 80 f) (M 79 f) (M 78 f) y) (pt (b + 1) - pt b) (pt b) (M 107) 0 0 from evs_a _ _ _ _ _ _ _ _ b3 (fun i hi => by omega)]
  rw [xX12_worked, eX12_worked_0]
  simp (disch := omega) only [px_inbT, nI_clamp, (i5 b (by omega)).1, cond_true]
  exact hv
/-- the model's bars, one after the other -/
theorem m_hind_l {nb f : Nat} {pt : Nat → Nat} {cb : Int32} {en sp opd : Nat → Int32} (hf : f < 20) (y : Int32) : ∀ (g k : Nat) (M : Nat → Nat → Int32), IRc nb pt cb (M 67 38) en sp opd (M 96) (M 97) (M 98) → k + g = nb → ∃ st, px_run (px_mk (kX12_hinders (px_ex px_tab (d + 2)))) 59 ([some (.ref 67), some (.int (nI f)), none, some (.int y), some (.int (nI k))], [], (hp M J R c e nL xs D)) = some (some (Value.int (if fhd (vbr (cdf (M 96)) (M 97) (nmv (M 77 f) (M 80 f) (M 79 f) (M 78 f) y) pt) g k = -1 then 0 else 4 + fhd (vbr (cdf (M 96)) (M 97) (nmv (M 77 f) (M 80 f) (M 79 f) (M 78 f) y) pt) g k)), (hp (px_uR M 107 st) (J) (R) (c) (e) nL xs (D)))
  | 0, k, M, hI, hk => by
    have i1 := hI.1
    refine ⟨M 107, ?_⟩
    rw [eX12_hinders_59, hI.2.2.1, px_uR_id]
    simp (disch := omega) only [px_bd_s, px_psh_s, px_psh_n, px_vb_s, px_ib_s, px_wb_s, px_bo_s, px_bo_n, Bool.cond_decide, cond_true, cond_false, ite_not, Bool.and_true, if_true, if_false, not_true_eq_false, not_false_eq_true, i10, eq_self, decide_true, decide_false, Bool.or_true, Bool.true_or, Bool.or_false, Bool.false_or, nI_leI, if_pos, eX12_hinders_90]
    rfl
  | g + 1, k, M, hI, hk => by
    have i1 := hI.1
    obtain ⟨st, hv⟩ := m_worked d J R c e nL xs D M hI hf (show k < nb by omega) y
    obtain ⟨st2, hr⟩ := m_hind_l hf y g (k + 1) (px_uR M 107 st) hI (by omega)
    rw [fhd_s]
    by_cases h0 : vbr (cdf (M 96)) (M 97) (nmv (M 77 f) (M 80 f) (M 79 f) (M 78 f) y) pt k = 0
    · refine ⟨st2, ?_⟩
      rw [px_uR_2] at hr
      rw [if_pos h0, eX12_hinders_59, hI.2.2.1]
      refine Eq.trans ?_ hr
      simp (disch := omega) only [px_bd_s, px_psh_s, px_psh_n, px_vb_s, px_ib_s, px_wb_s, px_bo_s, px_bo_n, Bool.cond_decide, cond_true, cond_false, ite_not, Bool.and_true, if_true, if_false, not_true_eq_false, not_false_eq_true, i10, eq_self, decide_true, decide_false, Bool.or_true, Bool.true_or, Bool.or_false, Bool.false_or, nI_leI, if_neg, hv, eX12_hinders_59_9, h0, eX12_hinders_84, nI_1]
    · refine ⟨st, ?_⟩
      rw [if_neg h0, if_neg (nI_n1 (show k < 2 ^ 31 by omega)), eX12_hinders_59, hI.2.2.1]
      simp (disch := omega) only [px_bd_s, px_psh_s, px_psh_n, px_vb_s, px_ib_s, px_wb_s, px_bo_s, px_bo_n, Bool.cond_decide, cond_true, cond_false, ite_not, Bool.and_true, if_true, if_false, not_true_eq_false, not_false_eq_true, i10, eq_self, decide_true, decide_false, Bool.or_true, Bool.true_or, Bool.or_false, Bool.false_or, nI_leI, if_neg, hv, eX12_hinders_59_9, h0]
end S42
section S42b
variable (d : Nat) (M : Nat → Nat → Int32) (J : Nat → Nat → Int64) (R : Nat → Nat → Option Nat) (c e nL : Nat) (xs : Nat → Int32) (D : px_H)
/-- the yard's refusals -/
theorem c_yref {n t i j : Nat} {P : Nat → Nat} {H : Nat → Nat → Int32} (hF : IFn n P H (M 28 0) (M 67 13) (R 29) D (M 77) (M 78) (M 79) (M 80) (M 81) (M 82) (M 83) (M 84)) (hi : i < n) {k : Nat} (hk : k ≤ 5) (h0 : M 77 i = nI k) (ht : t ≤ 6) (hj : j < t) (r1 : M 30 j = M 85 j) (r2 : M 31 j = M 86 j) :
    (¬ M 83 i = -1 → px_ex px_tab (d + 2) 119 [Value.ref (28), Value.ref (111 + P i), Value.int (nI j)] (hp (M) (J) (R) (c) (e) nL xs (D)) = some (some (Value.int (1)), (hp (M) (J) (R) (c) (e) nL xs (D)))) ∧
    (M 83 i = -1 → ¬ und k (M 85 j) → px_ex px_tab (d + 2) 119 [Value.ref (28), Value.ref (111 + P i), Value.int (nI j)] (hp (M) (J) (R) (c) (e) nL xs (D)) = some (some (Value.int (2)), (hp (M) (J) (R) (c) (e) nL xs (D)))) ∧
    (M 83 i = -1 → und k (M 85 j) → px_ex px_tab (d + 2) 119 [Value.ref (28), Value.ref (111 + P i), Value.int (nI j)] (hp (M) (J) (R) (c) (e) nL xs (D)) = some (some (Value.int (if ac (fun k => if M 83 k = nI j then M 80 k else 0) n 0 0 + M 80 i ≤ M 86 j then 0 else 3)), (hp (M) (J) (R) (c) (e) nL xs (D)))) := by
  obtain ⟨a1, a2, a3, a4⟩ := hF.2.2.2.2.1 i hi
  have e6 : fdF (M 77) (M 78) (M 79) (M 80) (M 81) (M 83) (M 84) i 6 = if M 83 i = -1 then 1 else 0 := rfl
  have e3 : fdF (M 77) (M 78) (M 79) (M 80) (M 81) (M 83) (M 84) i 3 = M 80 i := rfl
  rw [xX10_refusal]
  refine ⟨fun h1 => ?_, fun h1 h2 => ?_, fun h1 h2 => ?_⟩
  · simp only [px_bd_s, px_psh_s, px_psh_n, px_vb_s, px_ib_s, px_wb_s, px_bo_s, px_bo_n, Bool.cond_decide, cond_true, cond_false, ite_not, Bool.and_true, if_true, if_false, not_true_eq_false, not_false_eq_true, i10, eq_self, decide_true, decide_false, Bool.or_true, Bool.true_or, Bool.or_false, Bool.false_or, eX10_refusal_0, eX10_refusal_0_1, eX10_refusal_0_2, fd_g6 a2, e6, if_neg h1]
  · simp (disch := omega) only [px_bd_s, px_psh_s, px_psh_n, px_vb_s, px_ib_s, px_wb_s, px_bo_s, px_bo_n, Bool.cond_decide, cond_true, cond_false, ite_not, Bool.and_true, if_true, if_false, not_true_eq_false, not_false_eq_true, i10, eq_self, decide_true, decide_false, Bool.or_true, Bool.true_or, Bool.or_false, Bool.false_or, eX10_refusal_0, eX10_refusal_0_1, eX10_refusal_0_2, eX10_refusal_9, eX10_refusal_9_5, eX10_refusal_9_6, fd_g6 a2, e6, if_pos h1, px_inbT, nI_clamp, fd_isc a2, r1, (c_isUnder d M J R c e nL xs D a2 hk h0 (M 85 j)).2 h2, (c_isUnder (d + 0) M J R c e nL xs D a2 hk h0 (M 85 j)).2 h2]
  · simp (disch := omega) only [px_bd_s, px_psh_s, px_psh_n, px_vb_s, px_ib_s, px_wb_s, px_bo_s, px_bo_n, Bool.cond_decide, cond_true, cond_false, ite_not, Bool.and_true, if_true, if_false, not_true_eq_false, not_false_eq_true, i10, eq_self, decide_true, decide_false, Bool.or_true, Bool.true_or, Bool.or_false, Bool.false_or, eX10_refusal_0, eX10_refusal_0_1, eX10_refusal_0_2, eX10_refusal_9, eX10_refusal_9_5, eX10_refusal_9_6, eX10_refusal_24, eX10_refusal_24_3, eX10_refusal_24_4, eX10_refusal_24_5, eX10_refusal_47, eX10_refusal_48, fd_g6 a2, e6, if_pos h1, px_inbT, nI_clamp, fd_isc a2, r1, (c_isUnder d M J R c e nL xs D a2 hk h0 (M 85 j)).1 h2, c_sizesIn d M J R c e nL xs D hF (show j < 6 by omega), fd_g3 a2, e3, r2]
    split <;> rfl
end S42b
