/-! PART 70: the model's fits -/
/-- where the marks were told to be -/
def IMo (s : Sv) (M : Nat → Nat → Int32) : Prop := ∀ i, i < Sm s → M 68 i = iI (Sx s i) ∧ M 69 i = iI (Sy s i) ∧ M 72 i = (if Sf s i = true then 1 else 0)
def rg5 (s : Sv) : Prop := rng s 5000 (fun j => (Sx s j, Sy s j))
theorem sv_tms_s (s : Sv) (o : Nat → Bool) (w : Int) (p : Nat → Int × Int) (k : Nat) : sv_tms s o w p (k + 1) = sv_swp s o w (sv_tms s o w p k) (Sm s) := rfl
theorem sv_stp_s (s : Sv) (o : Nat → Bool) (k : Nat) : sv_stp s o (k + 1) = sv_tms s o ((512 / 2 ^ k : Nat) : Int) (sv_stp s o k) 4 := rfl
section S70
variable (d : Nat) (M : Nat → Nat → Int32) (J : Nat → Nat → Int64) (R : Nat → Nat → Option Nat) (c e nL : Nat) (xs : Nat → Int32) (D : px_H)
theorem m_fits_0 {s : Sv} (hs : ISt s) (hI : IMt s M) (ht : IMo s M) : ∀ (g k : Nat) (M' : Nat → Nat → Int32) (o2 o3 : Option Value), k + g = Sm s → frm [70, 71] [] M M' → (∀ i, i < k → M' 70 i = iI (Sx s i) ∧ M' 71 i = iI (Sy s i)) → ∃ M1, px_run (px_mk (kX12_fits (px_ex px_tab d))) 2 ([some (Value.ref (67)), some (Value.int (nI k)), o2, o3], [], (hp (M') (J) (R) (c) (e) nL xs (D))) = px_run (px_mk (kX12_fits (px_ex px_tab d))) 44 ([some (Value.ref (67)), some (Value.int (512)), none, none], [], (hp (M1) (J) (R) (c) (e) nL xs (D))) ∧ frm [70, 71] [] M M1 ∧ IMp s (sv_stp s (fun _ => false) 0) M1
  | 0, k, M', o2, o3, hk, hf, hq => by
    have h8 := hs.1
    refine ⟨M', ?_, hf, fun i hi => hq i (by omega)⟩
    rw [eX12_fits_2]
    simp (disch := omega) only [px_bd_s, px_psh_s, px_psh_n, px_vb_s, px_ib_s, px_wb_s, px_bo_s, px_bo_n, Bool.cond_decide, cond_true, cond_false, ite_not, Bool.and_true, if_true, if_false, not_true_eq_false, not_false_eq_true, i10, eq_self, decide_true, decide_false, Bool.or_true, Bool.true_or, Bool.or_false, Bool.false_or, Bool.false_eq_true, hf.2 0 (by decide), hI.1, nI_leI, if_pos, eX12_fits_40]
  | g + 1, k, M', o2, o3, hk, hf, hq => by
    have h8 := hs.1
    obtain ⟨t1, t2, t3⟩ := ht k (by omega)
    obtain ⟨M1, r1, r2, r3⟩ := m_fits_0 hs hI ht g (k + 1) (px_uR (px_uR M' 70 (upd (M' 70) k (iI (Sx s k)))) 71 (upd (M' 71) k (iI (Sy s k)))) none none (by omega) ((hf.u 70 _ (by decide) (by decide)).u 71 _ (by decide) (by decide)) (fun i hi => by
      show upd (M' 70) k (iI (Sx s k)) i = iI (Sx s i) ∧ upd (M' 71) k (iI (Sy s k)) i = iI (Sy s i)
      by_cases e : i = k
      · subst e
        rw [pk_us, pk_us]
        exact ⟨rfl, rfl⟩
      · rw [pk_un e, pk_un e]
        exact hq i (by omega))
    refine ⟨M1, ?_, r2, r3⟩
    refine Eq.trans ?_ r1
    rw [eX12_fits_2]
    simp (disch := omega) only [px_bd_s, px_psh_s, px_psh_n, px_vb_s, px_ib_s, px_wb_s, px_bo_s, px_bo_n, Bool.cond_decide, cond_true, cond_false, ite_not, Bool.and_true, if_true, if_false, not_true_eq_false, not_false_eq_true, i10, eq_self, decide_true, decide_false, Bool.or_true, Bool.true_or, Bool.or_false, Bool.false_or, Bool.false_eq_true, hf.2 0 (by decide), hI.1, nI_leI, if_neg, px_inbT, nI_clamp, hf.1 68 (by decide) (by decide), hf.1 69 (by decide) (by decide), t1, t2, zp1]
theorem m_swp {s : Sv} {o : Nat → Bool} (hs : ISt s) (hI : IMt s M) (ht : IMo s M) (ho : ∀ j, j < St s → M 76 j = if o j = true then 1 else 0) {w : Nat} {p : Nat → Int × Int} {B : Nat} (hr : rng s B p) (hB : B + w ≤ 9092) (t : Nat) : ∀ (g k : Nat) (M' : Nat → Nat → Int32), k + g = Sm s → frm [70, 71] [] M M' → IMp s (sv_swp s o w p k) M' → ∃ M1, px_run (px_mk (kX12_fits (px_ex px_tab (d + 4)))) 57 ([some (Value.ref (67)), some (Value.int (nI w)), some (Value.int (nI t)), some (Value.int (nI k))], [], (hp (M') (J) (R) (c) (e) nL xs (D))) = px_run (px_mk (kX12_fits (px_ex px_tab (d + 4)))) 50 ([some (Value.ref (67)), some (Value.int (nI w)), some (Value.int (nI (t + 1))), none], [], (hp (M1) (J) (R) (c) (e) nL xs (D))) ∧ frm [70, 71] [] M M1 ∧ IMp s (sv_swp s o w p (Sm s)) M1
  | 0, k, M', hk, hf, hq => by
    have h8 := hs.1
    rw [show k = Sm s from by omega] at hq ⊢
    refine ⟨M', ?_, hf, hq⟩
    rw [eX12_fits_57]
    simp (disch := omega) only [px_bd_s, px_psh_s, px_psh_n, px_vb_s, px_ib_s, px_wb_s, px_bo_s, px_bo_n, Bool.cond_decide, cond_true, cond_false, ite_not, Bool.and_true, if_true, if_false, not_true_eq_false, not_false_eq_true, i10, eq_self, decide_true, decide_false, Bool.or_true, Bool.true_or, Bool.or_false, Bool.false_or, Bool.false_eq_true, hf.2 0 (by decide), hI.1, nI_leI, if_pos, Nat.le_refl, eX12_fits_86, zp1]
  | g + 1, k, M', hk, hf, hq => by
    have h8 := hs.1
    obtain ⟨t1, t2, t3⟩ := ht k (by omega)
    have e72 : M' 72 k = if Sf s k = true then 1 else 0 := by
      rw [hf.1 72 (by decide) (by decide)]
      exact t3
    have hI' : IMt s M' := by
      unfold IMt
      rw [hf.1 73 (by decide) (by decide), hf.1 74 (by decide) (by decide), hf.1 75 (by decide) (by decide), hf.2 0 (by decide), hf.2 6 (by decide)]
      exact hI
    have x0 : ¬ nI (Sm s) ≤ nI k := fun q => by
      have := (nI_leI (by omega) (by omega)).mp q
      omega
    by_cases hx : Sf s k = true
    · obtain ⟨M1, r1, r2, r3⟩ := m_swp hs hI ht ho hr hB t g (k + 1) M' (by omega) hf (by rw [sv_swp_s, if_pos hx]; exact hq)
      refine ⟨M1, ?_, r2, r3⟩
      refine Eq.trans ?_ r1
      rw [eX12_fits_57]
      simp (disch := omega) only [px_bd_s, px_psh_s, px_psh_n, px_vb_s, px_ib_s, px_wb_s, px_bo_s, px_bo_n, Bool.cond_decide, cond_true, cond_false, ite_not, Bool.and_true, if_true, if_false, not_true_eq_false, not_false_eq_true, i10, eq_self, decide_true, decide_false, Bool.or_true, Bool.true_or, Bool.or_false, Bool.false_or, Bool.false_eq_true, hf.2 0 (by decide), hI.1, x0, px_inbT, nI_clamp, e72, hx, eX12_fits_80, zp1]
    · have pb := hr k (by omega)
      obtain ⟨M0, g1, g2, g3⟩ := m_goes d M' J R c e nL xs D (w := w) (o := o) hs hI' hq ((sv_swp_b s o hr k (by omega)).mono hB) (fun j hj => by
        rw [hf.1 76 (by decide) (by decide)]
        exact ho j hj) (m := k) (by omega) (by rw [sv_swp_o s o w p k k (Nat.le_refl _)]; omega)
      obtain ⟨M1, r1, r2, r3⟩ := m_swp hs hI ht ho hr hB t g (k + 1) M0 (by omega) (hf.tr g3) (by rw [sv_swp_s, if_neg hx]; exact g2)
      refine ⟨M1, ?_, r2, r3⟩
      refine Eq.trans ?_ r1
      rw [eX12_fits_57]
      simp (disch := omega) only [px_bd_s, px_psh_s, px_psh_n, px_vb_s, px_ib_s, px_wb_s, px_bo_s, px_bo_n, Bool.cond_decide, cond_true, cond_false, ite_not, Bool.and_true, if_true, if_false, not_true_eq_false, not_false_eq_true, i10, eq_self, decide_true, decide_false, Bool.or_true, Bool.true_or, Bool.or_false, Bool.false_or, Bool.false_eq_true, hf.2 0 (by decide), hI.1, x0, px_inbT, nI_clamp, e72, hx, g1, eX12_fits_57_13, eX12_fits_80, zp1]
theorem m_tms {s : Sv} {o : Nat → Bool} (hs : ISt s) (hI : IMt s M) (ht : IMo s M) (ho : ∀ j, j < St s → M 76 j = if o j = true then 1 else 0) {w : Nat} {p : Nat → Int × Int} {B : Nat} (hr : rng s B p) (hB : B + 4 * w ≤ 9092) : ∀ (g t : Nat) (M' : Nat → Nat → Int32) (o3 : Option Value), t + g = 4 → frm [70, 71] [] M M' → IMp s (sv_tms s o w p t) M' → ∃ M1, px_run (px_mk (kX12_fits (px_ex px_tab (d + 4)))) 50 ([some (Value.ref (67)), some (Value.int (nI w)), some (Value.int (nI t)), o3], [], (hp (M') (J) (R) (c) (e) nL xs (D))) = px_run (px_mk (kX12_fits (px_ex px_tab (d + 4)))) 92 ([some (Value.ref (67)), some (Value.int (nI w)), some (Value.int (4)), none], [], (hp (M1) (J) (R) (c) (e) nL xs (D))) ∧ frm [70, 71] [] M M1 ∧ IMp s (sv_tms s o w p 4) M1
  | 0, t, M', o3, hk, hf, hq => by
    rw [show t = 4 from by omega] at hq ⊢
    refine ⟨M', ?_, hf, hq⟩
    rw [eX12_fits_50]
    simp only [px_bd_s, px_psh_s, px_psh_n, px_vb_s, px_ib_s, px_wb_s, px_bo_s, px_bo_n, Bool.cond_decide, cond_true, cond_false, ite_not, Bool.and_true, if_true, if_false, not_true_eq_false, not_false_eq_true, i10, eq_self, decide_true, decide_false, Bool.or_true, Bool.true_or, Bool.or_false, Bool.false_or, Bool.false_eq_true, show (4 : Int32) ≤ nI 4 from by decide]
    rfl
  | g + 1, t, M', o3, hk, hf, hq => by
    have hb := sv_tms_b s o (w := w) hr t
    have hb2 : B + t * w + w ≤ 9092 := by
      have : t * w ≤ 3 * w := Nat.mul_le_mul_right w (by omega)
      omega
    obtain ⟨M0, q1, q2, q3⟩ := m_swp d M J R c e nL xs D hs hI ht ho hb hb2 t (Sm s) 0 M' (by omega) hf hq
    obtain ⟨M1, r1, r2, r3⟩ := m_tms hs hI ht ho hr hB g (t + 1) M0 none (by omega) q2 q3
    refine ⟨M1, ?_, r2, r3⟩
    refine Eq.trans ?_ r1
    refine Eq.trans ?_ q1
    rw [eX12_fits_50]
    simp (disch := omega) only [px_bd_s, px_psh_s, px_psh_n, px_vb_s, px_ib_s, px_wb_s, px_bo_s, px_bo_n, Bool.cond_decide, cond_true, cond_false, ite_not, Bool.and_true, if_true, if_false, not_true_eq_false, not_false_eq_true, i10, eq_self, decide_true, decide_false, Bool.or_true, Bool.true_or, Bool.or_false, Bool.false_or, Bool.false_eq_true, za4, if_neg]
    rfl
theorem hf_1 : ∀ k, k < 10 → nI (512 / 2 ^ k) / 2 = nI (512 / 2 ^ (k + 1)) := by decide
theorem hf_2 : ∀ k, k < 10 → ¬ nI (512 / 2 ^ k) ≤ 0 := by decide
theorem m_stp {s : Sv} {o : Nat → Bool} (hs : ISt s) (hI : IMt s M) (ht : IMo s M) (hr : rg5 s) (ho : ∀ j, j < St s → M 76 j = if o j = true then 1 else 0) : ∀ (g k : Nat) (M' : Nat → Nat → Int32) (o2 o3 : Option Value), k + g = 10 → frm [70, 71] [] M M' → IMp s (sv_stp s o k) M' → ∃ M1, px_run (px_mk (kX12_fits (px_ex px_tab (d + 4)))) 44 ([some (Value.ref (67)), some (Value.int (nI (512 / 2 ^ k))), o2, o3], [], (hp (M') (J) (R) (c) (e) nL xs (D))) = some (none, (hp (M1) (J) (R) (c) (e) nL xs (D))) ∧ frm [70, 71] [] M M1 ∧ IMp s (sv_fit s o) M1
  | 0, k, M', o2, o3, hk, hf, hq => by
    rw [show k = 10 from by omega] at hq ⊢
    refine ⟨M', ?_, hf, hq⟩
    rw [eX12_fits_44]
    simp only [px_bd_s, px_psh_s, px_psh_n, px_vb_s, px_ib_s, px_wb_s, px_bo_s, px_bo_n, Bool.cond_decide, cond_true, cond_false, ite_not, Bool.and_true, if_true, if_false, not_true_eq_false, not_false_eq_true, i10, eq_self, decide_true, decide_false, Bool.or_true, Bool.true_or, Bool.or_false, Bool.false_or, Bool.false_eq_true, show nI (512 / 2 ^ 10) ≤ 0 from by decide, eX12_fits_99]
  | g + 1, k, M', o2, o3, hk, hf, hq => by
    have hb := sv_stp_b s o hr k (by omega)
    have hb2 : 5000 + 4 * (1024 - 1024 / 2 ^ k) + 4 * (512 / 2 ^ k) ≤ 9092 := by
      rcases (by omega : k = 0 ∨ k = 1 ∨ k = 2 ∨ k = 3 ∨ k = 4 ∨ k = 5 ∨ k = 6 ∨ k = 7 ∨ k = 8 ∨ k = 9) with rfl | rfl | rfl | rfl | rfl | rfl | rfl | rfl | rfl | rfl <;> decide
    obtain ⟨M0, q1, q2, q3⟩ := m_tms d M J R c e nL xs D hs hI ht ho hb hb2 4 0 M' none (by omega) hf hq
    obtain ⟨M1, r1, r2, r3⟩ := m_stp hs hI ht hr ho g (k + 1) M0 none none (by omega) q2 q3
    refine ⟨M1, ?_, r2, r3⟩
    refine Eq.trans ?_ r1
    rw [eX12_fits_44]
    simp only [px_bd_s, px_psh_s, px_psh_n, px_vb_s, px_ib_s, px_wb_s, px_bo_s, px_bo_n, Bool.cond_decide, cond_true, cond_false, ite_not, Bool.and_true, if_true, if_false, not_true_eq_false, not_false_eq_true, i10, eq_self, decide_true, decide_false, Bool.or_true, Bool.true_or, Bool.or_false, Bool.false_or, Bool.false_eq_true, hf_2 k (by omega)]
    refine Eq.trans (show _ = _ from q1) ?_
    rw [eX12_fits_92, hf_1 k (by omega)]
theorem m_fits {s : Sv} {o : Nat → Bool} (hs : ISt s) (hI : IMt s M) (ht : IMo s M) (hr : rg5 s) (ho : ∀ j, j < St s → M 76 j = if o j = true then 1 else 0) : ∃ M1, px_ex px_tab (d + 5) 177 [Value.ref (67)] (hp (M) (J) (R) (c) (e) nL xs (D)) = some (none, (hp (M1) (J) (R) (c) (e) nL xs (D))) ∧ frm [70, 71] [] M M1 ∧ IMp s (sv_fit s o) M1 := by
  obtain ⟨M0, q1, q2, q3⟩ := m_fits_0 (d + 4) M J R c e nL xs D hs hI ht (Sm s) 0 M none none (by omega) (frm.rf _ _ _) (fun i hi => by omega)
  obtain ⟨M1, r1, r2, r3⟩ := m_stp d M J R c e nL xs D hs hI ht hr ho 10 0 M0 none none (by omega) q2 q3
  refine ⟨M1, ?_, r2, r3⟩
  rw [xX12_fits, eX12_fits_0]
  exact (show _ = _ from q1).trans r1
end S70
