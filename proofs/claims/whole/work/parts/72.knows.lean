/-! PART 72: the model's knows -/
def KN (s : Sv) (r : Nat) (M : Nat → Nat → Int32) : Prop := (∀ i, i < (Sm s) → M 70 i = iI ((sv_pos s r i).1) ∧ M 71 i = iI ((sv_pos s r i).2)) ∧ ∀ j, j < (St s) → M 76 j = if sv_out s r j = true then 1 else 0
/-- the model's worst so far: above the bar, or none -/
def wv (s : Sv) (o : Nat → Bool) (p : Nat → Int × Int) (b k : Nat) : Int32 × Int32 := if (b : Int) < (sv_w s o p k).1 then (nI (sv_w s o p k).2, iI (sv_w s o p k).1) else (-1, nI b)
theorem wv_s {s : Sv} {o : Nat → Bool} {p : Nat → Int × Int} {b k : Nat} (hb : b ≤ 15000) (h1 : -15000 ≤ sv_mis s p k ∧ sv_mis s p k ≤ 25716) (h2 : (sv_w s o p k).1 ≤ 25716) : wv s o p b (k + 1) = if o k = true then wv s o p b k else if iI ((sv_mis s p k).natAbs : Int) ≤ (wv s o p b k).2 then wv s o p b k else (nI k, iI ((sv_mis s p k).natAbs : Int)) := by
  unfold wv
  rw [sv_w_s]
  by_cases ho : o k = true
  · rw [if_pos ho, if_neg (show ¬ (o k = false ∧ (sv_w s o p k).1 < ((sv_mis s p k).natAbs : Int)) from fun q => by rw [ho] at q; cases q.1)]
  · rw [if_neg ho]
    have ho' : o k = false := by
      cases h : o k
      · rfl
      · exact absurd h ho
    by_cases hd : (sv_w s o p k).1 < ((sv_mis s p k).natAbs : Int)
    · have cn : o k = false ∧ (sv_w s o p k).1 < ((sv_mis s p k).natAbs : Int) := ⟨ho', hd⟩
      rw [if_pos cn]
      by_cases hc : (b : Int) < (sv_w s o p k).1
      · have e : iI ((sv_mis s p k).natAbs : Int) ≤ iI (sv_w s o p k).1 ↔ ((sv_mis s p k).natAbs : Int) ≤ (sv_w s o p k).1 := iI_le (by omega) (by omega)
        have e2 : ¬ iI ((sv_mis s p k).natAbs : Int) ≤ iI (sv_w s o p k).1 := fun q => by have := e.mp q; omega
        rw [if_pos hc, if_pos (show (b : Int) < ((sv_mis s p k).natAbs : Int) by omega), if_neg e2]
      · have e : iI ((sv_mis s p k).natAbs : Int) ≤ nI b ↔ ((sv_mis s p k).natAbs : Int) ≤ b := by
          rw [← iI_nat b]
          exact iI_le (by omega) (by omega)
        rw [if_neg hc]
        by_cases hf : (b : Int) < ((sv_mis s p k).natAbs : Int)
        · have e2 : ¬ iI ((sv_mis s p k).natAbs : Int) ≤ nI b := fun q => by have := e.mp q; omega
          rw [if_pos hf, if_neg e2]
        · have e2 : iI ((sv_mis s p k).natAbs : Int) ≤ nI b := e.mpr (by omega)
          rw [if_neg hf, if_pos e2]
    · have cn : ¬ (o k = false ∧ (sv_w s o p k).1 < ((sv_mis s p k).natAbs : Int)) := fun q => hd q.2
      rw [if_neg cn]
      by_cases hc : (b : Int) < (sv_w s o p k).1
      · have e : iI ((sv_mis s p k).natAbs : Int) ≤ iI (sv_w s o p k).1 ↔ ((sv_mis s p k).natAbs : Int) ≤ (sv_w s o p k).1 := iI_le (by omega) (by omega)
        have e2 : iI ((sv_mis s p k).natAbs : Int) ≤ iI (sv_w s o p k).1 := e.mpr (by omega)
        rw [if_pos hc, if_pos e2]
      · have e : iI ((sv_mis s p k).natAbs : Int) ≤ nI b ↔ ((sv_mis s p k).natAbs : Int) ≤ b := by
          rw [← iI_nat b]
          exact iI_le (by omega) (by omega)
        have e2 : iI ((sv_mis s p k).natAbs : Int) ≤ nI b := e.mpr (by omega)
        rw [if_neg hc, if_pos e2]
section S72
variable (d : Nat) (M : Nat → Nat → Int32) (J : Nat → Nat → Int64) (R : Nat → Nat → Option Nat) (c e nL : Nat) (xs : Nat → Int32) (D : px_H)
theorem m_kn_w {s : Sv} {o : Nat → Bool} {p : Nat → Int × Int} {b : Nat} (hb : b ≤ 15000) (hs : ISt s) (hI : IMt s M) (hr : rng s 9092 p) (hq : ∀ k, k < St s → px_ex px_tab (d) 174 [Value.ref (67), Value.int (nI k)] (hp (M) (J) (R) (c) (e) nL xs (D)) = some (some (Value.int (iI (sv_mis s p k))), (hp (M) (J) (R) (c) (e) nL xs (D)))) (ho : ∀ j, j < St s → M 76 j = if o j = true then 1 else 0) : ∀ (g k : Nat) (o4 : Option Value), k + g = St s → px_run (px_mk (kX12_knows (px_ex px_tab d))) 56 ([some (Value.ref (67)), some (Value.int ((wv s o p b k).1)), some (Value.int ((wv s o p b k).2)), some (Value.int (nI k)), o4], [], (hp (M) (J) (R) (c) (e) nL xs (D))) = px_run (px_mk (kX12_knows (px_ex px_tab d))) 114 ([some (Value.ref (67)), some (Value.int ((wv s o p b (St s)).1)), some (Value.int ((wv s o p b (St s)).2)), some (Value.int (nI (St s))), none], [], (hp (M) (J) (R) (c) (e) nL xs (D)))
  | 0, k, o4, hk => by
    have h24 := hs.2.1
    rw [show k = St s from by omega, eX12_knows_56]
    simp (disch := omega) only [px_bd_s, px_psh_s, px_psh_n, px_vb_s, px_ib_s, px_wb_s, px_bo_s, px_bo_n, Bool.cond_decide, cond_true, cond_false, ite_not, Bool.and_true, if_true, if_false, not_true_eq_false, not_false_eq_true, i10, eq_self, decide_true, decide_false, Bool.or_true, Bool.true_or, Bool.or_false, Bool.false_or, Bool.false_eq_true, hI.2.1, nI_leI, Nat.le_refl, if_pos]
  | g + 1, k, o4, hk => by
    have h24 := hs.2.1
    have ih := m_kn_w hb hs hI hr hq ho g (k + 1) none (by omega)
    have b1 := mis_b hs hr (k := k) (by omega)
    rw [wv_s hb b1 (sv_w_m hs o hr k (by omega))] at ih
    have x0 : ¬ nI (St s) ≤ nI k := fun q => by
      have := (nI_leI (by omega) (by omega)).mp q
      omega
    have mm := hq k (by omega)
    have hk' := ho k (by omega)
    rw [eX12_knows_56]
    simp only [px_bd_s, px_psh_s, px_psh_n, px_vb_s, px_ib_s, px_wb_s, px_bo_s, px_bo_n, Bool.cond_decide, cond_true, cond_false, ite_not, Bool.and_true, if_true, if_false, not_true_eq_false, not_false_eq_true, i10, eq_self, decide_true, decide_false, Bool.or_true, Bool.true_or, Bool.or_false, Bool.false_or, Bool.false_eq_true, hI.2.1, x0, mm, eX12_knows_56_7]
    have x1 : (0 ≤ iI (sv_mis s p k)) ↔ 0 ≤ sv_mis s p k := iI_le (a := 0) (by omega) (by omega)
    have go : ∀ w, w = iI ((sv_mis s p k).natAbs : Int) → px_run (px_mk (kX12_knows (px_ex px_tab d))) 86 ([some (Value.ref (67)), some (Value.int ((wv s o p b k).1)), some (Value.int ((wv s o p b k).2)), some (Value.int (nI k)), none], [Value.int (w)], (hp (M) (J) (R) (c) (e) nL xs (D))) = px_run (px_mk (kX12_knows (px_ex px_tab d))) 114 ([some (Value.ref (67)), some (Value.int ((wv s o p b (St s)).1)), some (Value.int ((wv s o p b (St s)).2)), some (Value.int (nI (St s))), none], [], (hp (M) (J) (R) (c) (e) nL xs (D))) := by
      intro w hw
      subst hw
      rw [eX12_knows_86]
      by_cases h1 : o k = true
      · rw [if_pos h1] at ih
        simp (disch := omega) only [px_bd_s, px_psh_s, px_psh_n, px_vb_s, px_ib_s, px_wb_s, px_bo_s, px_bo_n, Bool.cond_decide, cond_true, cond_false, ite_not, Bool.and_true, if_true, if_false, not_true_eq_false, not_false_eq_true, i10, eq_self, decide_true, decide_false, Bool.or_true, Bool.true_or, Bool.or_false, Bool.false_or, Bool.false_eq_true, px_inbT, nI_clamp, hk', h1, eX12_knows_108, zp1]
        exact ih
      · rw [if_neg h1] at ih
        by_cases h2 : iI ((sv_mis s p k).natAbs : Int) ≤ (wv s o p b k).2
        · rw [if_pos h2] at ih
          simp (disch := omega) only [px_bd_s, px_psh_s, px_psh_n, px_vb_s, px_ib_s, px_wb_s, px_bo_s, px_bo_n, Bool.cond_decide, cond_true, cond_false, ite_not, Bool.and_true, if_true, if_false, not_true_eq_false, not_false_eq_true, i10, eq_self, decide_true, decide_false, Bool.or_true, Bool.true_or, Bool.or_false, Bool.false_or, Bool.false_eq_true, px_inbT, nI_clamp, hk', h1, h2, eX12_knows_108, zp1]
          exact ih
        · rw [if_neg h2] at ih
          simp (disch := omega) only [px_bd_s, px_psh_s, px_psh_n, px_vb_s, px_ib_s, px_wb_s, px_bo_s, px_bo_n, Bool.cond_decide, cond_true, cond_false, ite_not, Bool.and_true, if_true, if_false, not_true_eq_false, not_false_eq_true, i10, eq_self, decide_true, decide_false, Bool.or_true, Bool.true_or, Bool.or_false, Bool.false_or, Bool.false_eq_true, px_inbT, nI_clamp, hk', h1, h2, eX12_knows_108, zp1]
          exact ih
    by_cases h0 : 0 ≤ sv_mis s p k
    · simp only [px_bd_s, px_psh_s, px_psh_n, px_vb_s, px_ib_s, px_wb_s, px_bo_s, px_bo_n, Bool.cond_decide, cond_true, cond_false, ite_not, Bool.and_true, if_true, if_false, not_true_eq_false, not_false_eq_true, i10, eq_self, decide_true, decide_false, Bool.or_true, Bool.true_or, Bool.or_false, Bool.false_or, Bool.false_eq_true, x1, h0, eX12_knows_81, mm, eX12_knows_81_3]
      exact go _ (by rw [Int.natAbs_of_nonneg h0])
    · simp only [px_bd_s, px_psh_s, px_psh_n, px_vb_s, px_ib_s, px_wb_s, px_bo_s, px_bo_n, Bool.cond_decide, cond_true, cond_false, ite_not, Bool.and_true, if_true, if_false, not_true_eq_false, not_false_eq_true, i10, eq_self, decide_true, decide_false, Bool.or_true, Bool.true_or, Bool.or_false, Bool.false_or, Bool.false_eq_true, x1, h0, mm, eX12_knows_56_11]
      exact go _ (by rw [iI_neg, show ((sv_mis s p k).natAbs : Int) = -sv_mis s p k by omega])
theorem m_kn_0 {s : Sv} (hs : ISt s) (hI : M 67 6 = nI (St s)) : ∀ (g k : Nat) (M' : Nat → Nat → Int32) (o2 o3 o4 : Option Value), k + g = St s → frm [76] [] M M' → (∀ j, j < k → M' 76 j = 0) → ∃ M1, px_run (px_mk (kX12_knows (px_ex px_tab d))) 15 ([some (Value.ref (67)), some (Value.int (nI k)), o2, o3, o4], [], (hp (M') (J) (R) (c) (e) nL xs (D))) = px_run (px_mk (kX12_knows (px_ex px_tab d))) 38 ([some (Value.ref (67)), some (Value.int (0)), none, none, none], [], (hp (M1) (J) (R) (c) (e) nL xs (D))) ∧ frm [76] [] M M1 ∧ ∀ j, j < St s → M1 76 j = 0
  | 0, k, M', o2, o3, o4, hk, hf, hq => by
    have h24 := hs.2.1
    refine ⟨M', ?_, hf, fun i hi => hq i (by omega)⟩
    rw [eX12_knows_15]
    simp (disch := omega) only [px_bd_s, px_psh_s, px_psh_n, px_vb_s, px_ib_s, px_wb_s, px_bo_s, px_bo_n, Bool.cond_decide, cond_true, cond_false, ite_not, Bool.and_true, if_true, if_false, not_true_eq_false, not_false_eq_true, i10, eq_self, decide_true, decide_false, Bool.or_true, Bool.true_or, Bool.or_false, Bool.false_or, Bool.false_eq_true, hf.2 6 (by decide), hI, nI_leI, if_pos, eX12_knows_36]
  | g + 1, k, M', o2, o3, o4, hk, hf, hq => by
    have h24 := hs.2.1
    obtain ⟨M1, r1, r2, r3⟩ := m_kn_0 hs hI g (k + 1) (px_uR M' 76 (upd (M' 76) k 0)) none none none (by omega) (hf.u 76 _ (by decide) (by decide)) (fun i hi => by
      show upd (M' 76) k 0 i = 0
      by_cases e : i = k
      · subst e
        rw [pk_us]
      · rw [pk_un e]
        exact hq i (by omega))
    refine ⟨M1, ?_, r2, r3⟩
    refine Eq.trans ?_ r1
    rw [eX12_knows_15]
    simp (disch := omega) only [px_bd_s, px_psh_s, px_psh_n, px_vb_s, px_ib_s, px_wb_s, px_bo_s, px_bo_n, Bool.cond_decide, cond_true, cond_false, ite_not, Bool.and_true, if_true, if_false, not_true_eq_false, not_false_eq_true, i10, eq_self, decide_true, decide_false, Bool.or_true, Bool.true_or, Bool.or_false, Bool.false_or, Bool.false_eq_true, hf.2 6 (by decide), hI, nI_leI, if_neg, px_inbT, nI_clamp, zp1]
theorem m_kn_r {s : Sv} {b : Nat} (hb : b ≤ 15000) (hs : ISt s) (hI : IMt s M) (ht : IMo s M) (hr : rg5 s) (hB : M 67 12 = nI b) : ∀ (g r : Nat) (v : Int32) (M' : Nat → Nat → Int32) (o2 o3 o4 : Option Value), r + g = St s → v ≠ -1 → frm [70, 71, 76] [] M M' → (∀ j, j < St s → M' 76 j = if sv_out s r j = true then 1 else 0) → ∃ M1, px_run (px_mk (kX12_knows (px_ex px_tab (d + 5)))) 38 ([some (Value.ref (67)), some (Value.int (v)), o2, o3, o4], [], (hp (M') (J) (R) (c) (e) nL xs (D))) = some (none, (hp (M1) (J) (R) (c) (e) nL xs (D))) ∧ frm [70, 71, 76] [] M M1 ∧ KN s (sv_fr s b g r) M1 := by
  intro g
  induction g with
  | zero =>
    intro r v M' o2 o3 o4 hk hv hf hq
    have hI' : IMt s M' := by
      unfold IMt
      rw [hf.1 73 (by decide) (by decide), hf.1 74 (by decide) (by decide), hf.1 75 (by decide) (by decide), hf.2 0 (by decide), hf.2 6 (by decide)]
      exact hI
    have ht' : IMo s M' := by
      unfold IMo
      rw [hf.1 68 (by decide) (by decide), hf.1 69 (by decide) (by decide), hf.1 72 (by decide) (by decide)]
      exact ht
    obtain ⟨M1, f1, f2, f3⟩ := m_fits d M' J R c e nL xs D (o := sv_out s r) hs hI' ht' hr hq
    have hI1 : IMt s M1 := by
      unfold IMt
      rw [f2.1 73 (by decide) (by decide), f2.1 74 (by decide) (by decide), f2.1 75 (by decide) (by decide), f2.2 0 (by decide), f2.2 6 (by decide)]
      exact hI'
    have q76 : ∀ j, j < St s → M1 76 j = if sv_out s r j = true then 1 else 0 := fun j hj => by
      rw [f2.1 76 (by decide) (by decide)]
      exact hq j hj
    have e12 : M1 67 12 = nI b := by
      rw [f2.2 12 (by decide), hf.2 12 (by decide)]
      exact hB
    have w := m_kn_w (d + 5) M1 J R c e nL xs D hb hs hI1 (sv_pos_r hr (sv_out s r)) (fun k hk => m_miss (d + 3) M1 J R c e nL xs D hs hI1 f3 (sv_pos_r hr (sv_out s r)) hk) q76 (St s) 0 none (by omega)
    have wz : wv s (sv_out s r) (sv_fit s (sv_out s r)) b 0 = (-1, nI b) := by
      unfold wv
      rw [if_neg]
      show ¬ (b : Int) < -1
      omega
    have sz : (sv_w s (sv_out s r) (sv_fit s (sv_out s r)) (St s)).1 = sv_size s r := rfl
    rw [wz] at w
    refine ⟨M1, ?_, (hf.mono (by decide) (by decide)).tr (f2.mono (by decide) (by decide)), f3, q76⟩
    have we : wv s (sv_out s r) (sv_fit s (sv_out s r)) b (St s) = (-1, nI b) := by
      unfold wv
      rw [sz, show r = St s from by omega, sv_size_e, if_neg (by omega)]
    rw [we] at w
    rw [eX12_knows_38]
    simp only [px_bd_s, px_psh_s, px_psh_n, px_vb_s, px_ib_s, px_wb_s, px_bo_s, px_bo_n, Bool.cond_decide, cond_true, cond_false, ite_not, Bool.and_true, if_true, if_false, not_true_eq_false, not_false_eq_true, i10, eq_self, decide_true, decide_false, Bool.or_true, Bool.true_or, Bool.or_false, Bool.false_or, Bool.false_eq_true, hv, f1, eX12_knows_38_5, e12]
    refine Eq.trans (show _ = _ from w) ?_
    simp only [px_bd_s, px_psh_s, px_psh_n, px_vb_s, px_ib_s, px_wb_s, px_bo_s, px_bo_n, Bool.cond_decide, cond_true, cond_false, ite_not, Bool.and_true, if_true, if_false, not_true_eq_false, not_false_eq_true, i10, eq_self, decide_true, decide_false, Bool.or_true, Bool.true_or, Bool.or_false, Bool.false_or, Bool.false_eq_true, eX12_knows_114, eX12_knows_126, eX12_knows_38, eX12_knows_129]
  | succ g ih =>
    intro r v M' o2 o3 o4 hk hv hf hq
    have h24 := hs.2.1
    have hI' : IMt s M' := by
      unfold IMt
      rw [hf.1 73 (by decide) (by decide), hf.1 74 (by decide) (by decide), hf.1 75 (by decide) (by decide), hf.2 0 (by decide), hf.2 6 (by decide)]
      exact hI
    have ht' : IMo s M' := by
      unfold IMo
      rw [hf.1 68 (by decide) (by decide), hf.1 69 (by decide) (by decide), hf.1 72 (by decide) (by decide)]
      exact ht
    obtain ⟨M1, f1, f2, f3⟩ := m_fits d M' J R c e nL xs D (o := sv_out s r) hs hI' ht' hr hq
    have hI1 : IMt s M1 := by
      unfold IMt
      rw [f2.1 73 (by decide) (by decide), f2.1 74 (by decide) (by decide), f2.1 75 (by decide) (by decide), f2.2 0 (by decide), f2.2 6 (by decide)]
      exact hI'
    have q76 : ∀ j, j < St s → M1 76 j = if sv_out s r j = true then 1 else 0 := fun j hj => by
      rw [f2.1 76 (by decide) (by decide)]
      exact hq j hj
    have e12 : M1 67 12 = nI b := by
      rw [f2.2 12 (by decide), hf.2 12 (by decide)]
      exact hB
    have w := m_kn_w (d + 5) M1 J R c e nL xs D hb hs hI1 (sv_pos_r hr (sv_out s r)) (fun k hk => m_miss (d + 3) M1 J R c e nL xs D hs hI1 f3 (sv_pos_r hr (sv_out s r)) hk) q76 (St s) 0 none (by omega)
    have wz : wv s (sv_out s r) (sv_fit s (sv_out s r)) b 0 = (-1, nI b) := by
      unfold wv
      rw [if_neg]
      show ¬ (b : Int) < -1
      omega
    have sz : (sv_w s (sv_out s r) (sv_fit s (sv_out s r)) (St s)).1 = sv_size s r := rfl
    rw [wz] at w
    have hf1 : frm [70, 71, 76] [] M M1 := (hf.mono (by decide) (by decide)).tr (f2.mono (by decide) (by decide))
    rw [sv_fr_s]
    by_cases hz : sv_size s r ≤ (b : Int)
    · rw [if_pos hz]
      refine ⟨M1, ?_, hf1, f3, q76⟩
      have we : wv s (sv_out s r) (sv_fit s (sv_out s r)) b (St s) = (-1, nI b) := by
        unfold wv
        rw [sz, if_neg (by omega)]
      rw [we] at w
      rw [eX12_knows_38]
      simp only [px_bd_s, px_psh_s, px_psh_n, px_vb_s, px_ib_s, px_wb_s, px_bo_s, px_bo_n, Bool.cond_decide, cond_true, cond_false, ite_not, Bool.and_true, if_true, if_false, not_true_eq_false, not_false_eq_true, i10, eq_self, decide_true, decide_false, Bool.or_true, Bool.true_or, Bool.or_false, Bool.false_or, Bool.false_eq_true, hv, f1, eX12_knows_38_5, e12]
      refine Eq.trans (show _ = _ from w) ?_
      simp only [px_bd_s, px_psh_s, px_psh_n, px_vb_s, px_ib_s, px_wb_s, px_bo_s, px_bo_n, Bool.cond_decide, cond_true, cond_false, ite_not, Bool.and_true, if_true, if_false, not_true_eq_false, not_false_eq_true, i10, eq_self, decide_true, decide_false, Bool.or_true, Bool.true_or, Bool.or_false, Bool.false_or, Bool.false_eq_true, eX12_knows_114, eX12_knows_126, eX12_knows_38, eX12_knows_129]
    · rw [if_neg hz]
      have we : wv s (sv_out s r) (sv_fit s (sv_out s r)) b (St s) = (nI (sv_w s (sv_out s r) (sv_fit s (sv_out s r)) (St s)).2, iI (sv_size s r)) := by
        unfold wv
        rw [sz, if_pos (by omega)]
      rw [we] at w
      obtain ⟨u1, u2⟩ := (sv_w_b s (sv_out s r) (sv_fit s (sv_out s r)) (St s)).2 (by rw [sz]; omega)
      have so : sv_out s (r + 1) = fun j => sv_out s r j || decide (j = (sv_w s (sv_out s r) (sv_fit s (sv_out s r)) (St s)).2) := by
        rw [sv_out_s]
        simp [show 0 ≤ sv_size s r by omega]
        rfl
      generalize (sv_w s (sv_out s r) (sv_fit s (sv_out s r)) (St s)).2 = q at w u1 u2 so
      have qn : nI q ≠ -1 := nI_n1 (by omega)
      obtain ⟨M2, i1, i2, i3⟩ := ih (r + 1) (nI q) (px_uR M1 76 (upd (M1 76) q 1)) none none none (by omega) qn (hf1.u 76 _ (by decide) (by decide)) (fun j hj => by
        show upd (M1 76) q 1 j = _
        rw [so]
        by_cases ej : j = q
        · subst ej
          rw [pk_us]
          all_goals simp
        · rw [pk_un ej, q76 j hj]
          simp [ej])
      refine ⟨M2, ?_, i2, i3⟩
      refine Eq.trans ?_ i1
      rw [eX12_knows_38]
      simp only [px_bd_s, px_psh_s, px_psh_n, px_vb_s, px_ib_s, px_wb_s, px_bo_s, px_bo_n, Bool.cond_decide, cond_true, cond_false, ite_not, Bool.and_true, if_true, if_false, not_true_eq_false, not_false_eq_true, i10, eq_self, decide_true, decide_false, Bool.or_true, Bool.true_or, Bool.or_false, Bool.false_or, Bool.false_eq_true, hv, f1, eX12_knows_38_5, e12]
      refine Eq.trans (show _ = _ from w) ?_
      simp (disch := omega) only [px_bd_s, px_psh_s, px_psh_n, px_vb_s, px_ib_s, px_wb_s, px_bo_s, px_bo_n, Bool.cond_decide, cond_true, cond_false, ite_not, Bool.and_true, if_true, if_false, not_true_eq_false, not_false_eq_true, i10, eq_self, decide_true, decide_false, Bool.or_true, Bool.true_or, Bool.or_false, Bool.false_or, Bool.false_eq_true, eX12_knows_114, qn, px_inbT, nI_clamp, eX12_knows_126]
theorem m_knows {s : Sv} {b : Nat} (hb : b ≤ 15000) (hs : ISt s) (hI : IMt s M) (ht : IMo s M) (hr : rg5 s) (hB : M 67 12 = nI b) (hm : ISm s b M) : ∃ M1, px_ex px_tab (d + 6) 178 [Value.ref (67)] (hp (M) (J) (R) (c) (e) nL xs (D)) = some (none, (hp (M1) (J) (R) (c) (e) nL xs (D))) ∧ frm [70, 71, 76] [11] M M1 ∧ M1 67 11 = 1 ∧ KN s (sv_rnd s b) M1 := by
  rcases hm with h0 | ⟨h1, h2⟩
  · obtain ⟨M0, a1, a2, a3⟩ := m_kn_0 (d + 5) (px_uR M 67 (upd (M 67) 11 1)) J R c e nL xs D hs (by show upd (M 67) 11 1 6 = _; rw [pk_un (by decide)]; exact hI.2.1) (St s) 0 (px_uR M 67 (upd (M 67) 11 1)) none none none (by omega) (frm.rf _ _ _) (fun j hj => by omega)
    have hf : frm [70, 71, 76] [11] M M0 := ((frm.rf [70, 71, 76] [11] M).k 11 1 (by decide)).tr (a2.mono (by decide) (by decide))
    have hI' : IMt s M0 := by
      unfold IMt
      rw [hf.1 73 (by decide) (by decide), hf.1 74 (by decide) (by decide), hf.1 75 (by decide) (by decide), hf.2 0 (by decide), hf.2 6 (by decide)]
      exact hI
    have ht' : IMo s M0 := by
      unfold IMo
      rw [hf.1 68 (by decide) (by decide), hf.1 69 (by decide) (by decide), hf.1 72 (by decide) (by decide)]
      exact ht
    have e12 : M0 67 12 = nI b := by
      rw [hf.2 12 (by decide)]
      exact hB
    have e11 : M0 67 11 = 1 := by
      rw [a2.2 11 (by decide)]
      show upd (M 67) 11 1 11 = 1
      exact pk_us
    obtain ⟨M1, b1, b2, b3⟩ := m_kn_r d M0 J R c e nL xs D hb hs hI' ht' hr e12 (St s) 0 0 M0 none none none (by omega) (by decide) (frm.rf _ _ _) (fun j hj => by rw [a3 j hj]; rfl)
    refine ⟨M1, ?_, hf.tr (b2.mono (by decide) (by decide)), ?_, b3⟩
    · rw [xX12_knows, eX12_knows_0]
      simp only [px_bd_s, px_psh_s, px_psh_n, px_vb_s, px_ib_s, px_wb_s, px_bo_s, px_bo_n, Bool.cond_decide, cond_true, cond_false, ite_not, Bool.and_true, if_true, if_false, not_true_eq_false, not_false_eq_true, i10, eq_self, decide_true, decide_false, Bool.or_true, Bool.true_or, Bool.or_false, Bool.false_or, Bool.false_eq_true, h0, eX12_knows_8]
      exact (show _ = _ from a1).trans b1
    · rw [b2.2 11 (by decide)]
      exact e11
  · refine ⟨M, ?_, frm.rf _ _ _, h1, h2⟩
    rw [xX12_knows, eX12_knows_0]
    simp only [px_bd_s, px_psh_s, px_psh_n, px_vb_s, px_ib_s, px_wb_s, px_bo_s, px_bo_n, Bool.cond_decide, cond_true, cond_false, ite_not, Bool.and_true, if_true, if_false, not_true_eq_false, not_false_eq_true, i10, eq_self, decide_true, decide_false, Bool.or_true, Bool.true_or, Bool.or_false, Bool.false_or, Bool.false_eq_true, h1]
end S72
