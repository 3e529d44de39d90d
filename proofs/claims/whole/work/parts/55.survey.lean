/-! PART 55: THE SURVEY: what the fit is, and MARK, TAPE, BAR -/
def rt : Nat → Nat
  | 0 => 0
  | s + 1 => if (rt s + 1) * (rt s + 1) ≤ s + 1 then rt s + 1 else rt s
/-- a survey: marks, tapes, x, y, fixed, first ends, second ends, lengths -/
abbrev Sv := Nat × Nat × (Nat → Int) × (Nat → Int) × (Nat → Bool) × (Nat → Nat) × (Nat → Nat) × (Nat → Nat)
def Sm (s : Sv) : Nat := s.1
def St (s : Sv) : Nat := s.2.1
def Sx (s : Sv) : Nat → Int := s.2.2.1
def Sy (s : Sv) : Nat → Int := s.2.2.2.1
def Sf (s : Sv) : Nat → Bool := s.2.2.2.2.1
def Sa (s : Sv) : Nat → Nat := s.2.2.2.2.2.1
def Sb (s : Sv) : Nat → Nat := s.2.2.2.2.2.2.1
def Sl (s : Sv) : Nat → Nat := s.2.2.2.2.2.2.2
def iI (z : Int) : Int32 := Int32.ofInt z
def sq2 (u v : Int) : Nat := (u * u + v * v).toNat
def sv_mis (s : Sv) (p : Nat → Int × Int) (k : Nat) : Int := (rt (sq2 ((p ((Sa s) k)).1 - (p ((Sb s) k)).1) ((p ((Sa s) k)).2 - (p ((Sb s) k)).2)) : Int) - ((Sl s) k : Int)
def sv_sum (s : Sv) (o : Nat → Bool) (p : Nat → Int × Int) (m : Nat) : Nat → Int
  | 0 => 0
  | k + 1 => sv_sum s o p m k + (if o k = false ∧ ((Sa s) k = m ∨ (Sb s) k = m) then sv_mis s p k * sv_mis s p k else 0)
def ups (p : Nat → Int × Int) (m : Nat) (q : Int × Int) : Nat → Int × Int := fun j => if j = m then q else p j
def sv_try (s : Sv) (o : Nat → Bool) (p : Nat → Int × Int) (m : Nat) (z : (Int × Int) × Int) (q : Int × Int) : (Int × Int) × Int := if sv_sum s o (ups p m q) m (St s) < z.2 then (q, sv_sum s o (ups p m q) m (St s)) else z
/-- the step i of the nine: i / 3 - 1 along x, i % 3 - 1 along y -/
def sv_at (q : Int × Int) (w : Int) (i : Nat) : Int × Int := (q.1 + ((i / 3 : Nat) - 1 : Int) * w, q.2 + ((i % 3 : Nat) - 1 : Int) * w)
def sv_nine (s : Sv) (o : Nat → Bool) (p : Nat → Int × Int) (m : Nat) (w : Int) : Nat → (Int × Int) × Int
  | 0 => (p m, sv_sum s o p m (St s))
  | i + 1 => sv_try s o p m (sv_nine s o p m w i) (sv_at (p m) w i)
def sv_go (s : Sv) (o : Nat → Bool) (w : Int) (p : Nat → Int × Int) (m : Nat) : Nat → Int × Int := ups p m (sv_nine s o p m w 9).1
def sv_swp (s : Sv) (o : Nat → Bool) (w : Int) (p : Nat → Int × Int) : Nat → Nat → Int × Int
  | 0 => p
  | k + 1 => if (Sf s) k = true then sv_swp s o w p k else sv_go s o w (sv_swp s o w p k) k
def sv_tms (s : Sv) (o : Nat → Bool) (w : Int) (p : Nat → Int × Int) : Nat → Nat → Int × Int
  | 0 => p
  | k + 1 => sv_swp s o w (sv_tms s o w p k) (Sm s)
/-- after k of the ten steps 512, 256 .. 1 -/
def sv_stp (s : Sv) (o : Nat → Bool) : Nat → Nat → Int × Int
  | 0 => fun j => ((Sx s) j, (Sy s) j)
  | k + 1 => sv_tms s o ((512 / 2 ^ k : Nat) : Int) (sv_stp s o k) 4
def sv_fit (s : Sv) (o : Nat → Bool) : Nat → Int × Int := sv_stp s o 10
def sv_w (s : Sv) (o : Nat → Bool) (p : Nat → Int × Int) : Nat → Int × Nat
  | 0 => (-1, 0)
  | k + 1 => if o k = false ∧ (sv_w s o p k).1 < ((sv_mis s p k).natAbs : Int) then (((sv_mis s p k).natAbs : Int), k) else sv_w s o p k
def sv_out (s : Sv) : Nat → Nat → Bool
  | 0 => fun _ => false
  | r + 1 => fun j => sv_out s r j || (decide (0 ≤ (sv_w s (sv_out s r) (sv_fit s (sv_out s r)) (St s)).1) && decide (j = (sv_w s (sv_out s r) (sv_fit s (sv_out s r)) (St s)).2))
def sv_pos (s : Sv) (r : Nat) : Nat → Int × Int := sv_fit s (sv_out s r)
def sv_size (s : Sv) (r : Nat) : Int := (sv_w s (sv_out s r) (sv_pos s r) (St s)).1
def sv_fr (s : Sv) (b : Nat) : Nat → Nat → Nat
  | 0, r => r
  | g + 1, r => if sv_size s r ≤ (b : Int) then r else sv_fr s b g (r + 1)
def sv_rnd (s : Sv) (b : Nat) : Nat := sv_fr s b (St s) 0
/-- the marks and tapes of a survey, as both hold them -/
def ISd (s : Sv) (b : Nat) (M : Nat → Nat → Int32) : Prop := (Sm s) ≤ 8 ∧ (St s) ≤ 24 ∧ 1 ≤ b ∧ b ≤ 15000 ∧ M 14 0 = nI (Sm s) ∧ M 67 0 = nI (Sm s) ∧ M 14 1 = nI (St s) ∧ M 67 6 = nI (St s) ∧ M 14 2 = nI b ∧ M 67 12 = nI b ∧ (∀ i, i < (Sm s) → M 15 i = iI ((Sx s) i) ∧ M 68 i = iI ((Sx s) i) ∧ M 16 i = iI ((Sy s) i) ∧ M 69 i = iI ((Sy s) i) ∧ M 17 i = (if (Sf s) i = true then 1 else 0) ∧ M 72 i = (if (Sf s) i = true then 1 else 0) ∧ -5000 ≤ (Sx s) i ∧ (Sx s) i ≤ 5000 ∧ -5000 ≤ (Sy s) i ∧ (Sy s) i ≤ 5000) ∧ ∀ k, k < (St s) → M 18 k = nI ((Sa s) k) ∧ M 73 k = nI ((Sa s) k) ∧ M 19 k = nI ((Sb s) k) ∧ M 74 k = nI ((Sb s) k) ∧ M 20 k = nI ((Sl s) k) ∧ M 75 k = nI ((Sl s) k) ∧ (Sa s) k < (Sm s) ∧ (Sb s) k < (Sm s) ∧ (Sa s) k ≠ (Sb s) k ∧ 1 ≤ (Sl s) k ∧ (Sl s) k ≤ 15000
/-- the rounds that the class keeps -/
def ISk (s : Sv) (r : Nat) (M : Nat → Nat → Int32) : Prop := M 14 9 = nI r ∧ r ≤ (St s) + 1 ∧ (∀ k, k < r → M 23 k = iI (sv_size s k) ∧ ∀ i, i < (Sm s) → M 21 (8 * k + i) = iI ((sv_pos s k i).1) ∧ M 22 (8 * k + i) = iI ((sv_pos s k i).2)) ∧ ∀ j, j < (St s) → ∃ q, M 24 j = nI q ∧ (q ≤ r ∨ q = 99) ∧ ∀ k, k ≤ r → (q ≤ k ↔ sv_out s k j = true)
/-- what the model keeps of the fit -/
def ISm (s : Sv) (b : Nat) (M : Nat → Nat → Int32) : Prop := M 67 11 = 0 ∨ (M 67 11 = 1 ∧ (∀ i, i < (Sm s) → M 70 i = iI ((sv_pos s (sv_rnd s b) i).1) ∧ M 71 i = iI ((sv_pos s (sv_rnd s b) i).2)) ∧ ∀ j, j < (St s) → M 76 j = if sv_out s (sv_rnd s b) j = true then 1 else 0)
def ISv (M : Nat → Nat → Int32) : Prop := ∃ s b r, ISd s b M ∧ ISk s r M ∧ ISm s b M
theorem ISd.fr {S K : List Nat} {M M' : Nat → Nat → Int32} {s : Sv} {b : Nat} (hf : frm S K M M') (hS : ∀ a ∈ [14, 15, 16, 17, 18, 19, 20, 21, 22, 23, 24, 25, 26, 27, 68, 69, 70, 71, 72, 73, 74, 75, 76], a ∉ S) (hK : ∀ k ∈ [0, 6, 11, 12], k ∉ K) (h : ISd s b M) : ISd s b M' := by
  have e : ∀ a, a ≠ 67 → a ∈ [14, 15, 16, 17, 18, 19, 20, 21, 22, 23, 24, 25, 26, 27, 68, 69, 70, 71, 72, 73, 74, 75, 76] → M' a = M a := fun a h1 h2 => hf.1 a h1 (hS a h2)
  unfold ISd
  rw [e 14 (by decide) (by decide), e 15 (by decide) (by decide), e 16 (by decide) (by decide), e 17 (by decide) (by decide), e 18 (by decide) (by decide), e 19 (by decide) (by decide), e 20 (by decide) (by decide), e 68 (by decide) (by decide), e 69 (by decide) (by decide), e 72 (by decide) (by decide), e 73 (by decide) (by decide), e 74 (by decide) (by decide), e 75 (by decide) (by decide), hf.2 0 (hK 0 (by decide)), hf.2 6 (hK 6 (by decide)), hf.2 12 (hK 12 (by decide))]
  exact h
theorem ISv.fr {S K : List Nat} {M M' : Nat → Nat → Int32} (hf : frm S K M M') (hS : ∀ a ∈ [14, 15, 16, 17, 18, 19, 20, 21, 22, 23, 24, 25, 26, 27, 68, 69, 70, 71, 72, 73, 74, 75, 76], a ∉ S) (hK : ∀ k ∈ [0, 6, 11, 12], k ∉ K) (h : ISv M) : ISv M' := by
  obtain ⟨s, b, r, h1, h2, h3⟩ := h
  refine ⟨s, b, r, h1.fr hf hS hK, ?_, ?_⟩
  · have e : ∀ a, a ≠ 67 → a ∈ [14, 15, 16, 17, 18, 19, 20, 21, 22, 23, 24, 25, 26, 27, 68, 69, 70, 71, 72, 73, 74, 75, 76] → M' a = M a := fun a h1 h2 => hf.1 a h1 (hS a h2)
    unfold ISk
    rw [e 14 (by decide) (by decide), e 21 (by decide) (by decide), e 22 (by decide) (by decide), e 23 (by decide) (by decide), e 24 (by decide) (by decide)]
    exact h2
  · have e : ∀ a, a ≠ 67 → a ∈ [14, 15, 16, 17, 18, 19, 20, 21, 22, 23, 24, 25, 26, 27, 68, 69, 70, 71, 72, 73, 74, 75, 76] → M' a = M a := fun a h1 h2 => hf.1 a h1 (hS a h2)
    unfold ISm
    rw [hf.2 11 (hK 11 (by decide)), e 70 (by decide) (by decide), e 71 (by decide) (by decide), e 76 (by decide) (by decide)]
    exact h3
theorem ISk_0 {s : Sv} {M : Nat → Nat → Int32} (h : M 14 9 = 0) (h2 : ∀ j, j < (St s) → M 24 j = nI 99) : ISk s 0 M := by
  refine ⟨h, by omega, fun k hk => by omega, fun j hj => ⟨99, h2 j hj, Or.inr rfl, fun k hk => ?_⟩⟩
  rw [show k = 0 from by omega]
  exact ⟨fun q => by omega, fun q => by cases q⟩
theorem iI_self (x : Int32) : iI x.toInt = x := Int32.ofInt_toInt x
section S55
variable (d : Nat) (M : Nat → Nat → Int32) (J : Nat → Nat → Int64) (R : Nat → Nat → Option Nat) (c e nL : Nat) (xs : Nat → Int32) (D : px_H)
theorem c_frg_l : ∀ (g k : Nat) (M : Nat → Nat → Int32) (t : Nat), t ≤ 24 → M 14 1 = nI t → k + g = t → ∃ r, px_run (px_mk (kX7_forgetRounds (px_ex px_tab d))) 7 ([some (Value.ref (14)), some (Value.int (nI k))], [], (hp (M) (J) (R) (c) (e) nL xs (D))) = some (none, (hp (px_uR M 24 r) (J) (R) (c) (e) nL xs (D))) ∧ (∀ j, j < k → r j = M 24 j) ∧ ∀ j, k ≤ j → j < t → r j = nI 99
  | 0, k, M, t, ht, h1, hk => by
    refine ⟨M 24, ?_, fun _ _ => rfl, fun j _ _ => by omega⟩
    rw [eX7_forgetRounds_7, px_uR_id]
    simp (disch := omega) only [px_bd_s, px_psh_s, px_psh_n, px_vb_s, px_ib_s, px_wb_s, px_bo_s, px_bo_n, Bool.cond_decide, cond_true, cond_false, ite_not, Bool.and_true, if_true, if_false, not_true_eq_false, not_false_eq_true, i10, eq_self, decide_true, decide_false, Bool.or_true, Bool.true_or, Bool.or_false, Bool.false_or, h1, nI_leI, if_pos, eX7_forgetRounds_29]
  | g + 1, k, M, t, ht, h1, hk => by
    obtain ⟨r, q1, q2, q3⟩ := c_frg_l g (k + 1) (px_uR M 24 (upd (M 24) k 99)) t ht h1 (by omega)
    refine ⟨r, ?_, fun j hj => ?_, fun j h2 h3 => ?_⟩
    · rw [px_uR_2] at q1
      refine Eq.trans ?_ q1
      rw [eX7_forgetRounds_7]
      simp (disch := omega) only [px_bd_s, px_psh_s, px_psh_n, px_vb_s, px_ib_s, px_wb_s, px_bo_s, px_bo_n, Bool.cond_decide, cond_true, cond_false, ite_not, Bool.and_true, if_true, if_false, not_true_eq_false, not_false_eq_true, i10, eq_self, decide_true, decide_false, Bool.or_true, Bool.true_or, Bool.or_false, Bool.false_or, h1, nI_leI, if_neg, px_inbT, nI_clamp, zp1]
    · rw [q2 j (by omega)]
      exact pk_un (by omega)
    · rcases Nat.lt_or_ge k j with w | w
      · exact q3 j w h3
      · rw [show j = k from by omega, q2 k (by omega)]
        exact pk_us
theorem c_frg {t : Nat} (ht : t ≤ 24) (h1 : M 14 1 = nI t) : ∃ r, px_ex px_tab (d + 1) 83 [Value.ref (14)] (hp (M) (J) (R) (c) (e) nL xs (D)) = some (none, (hp (px_uR (px_uR M 14 (upd (M 14) 9 0)) 24 r) (J) (R) (c) (e) nL xs (D))) ∧ ∀ j, j < t → r j = nI 99 := by
  obtain ⟨r, q1, _, q3⟩ := c_frg_l d J R c e nL xs D t 0 (px_uR M 14 (upd (M 14) 9 0)) t ht h1 (by omega)
  refine ⟨r, ?_, fun j hj => q3 j (by omega) hj⟩
  rw [xX7_forgetRounds, eX7_forgetRounds_0]
  exact q1
theorem t_bar (hI : ISv M) (v : Int32) : ∃ w M1 M2, px_ex px_tab (d + 3) 125 [Value.ref (13), Value.int (v)] (hp (M) (J) (R) (c) (e) nL xs (D)) = some (some (Value.int (w)), (hp (M1) (J) (R) (c) (e) nL xs (D))) ∧ px_ex px_tab (d + 3) 172 [Value.ref (67), Value.int (v)] (hp (M1) (J) (R) (c) (e) nL xs (D)) = some (some (Value.int (w)), (hp (M2) (J) (R) (c) (e) nL xs (D))) ∧ ISv M2 ∧ frm [14, 15, 16, 17, 18, 19, 20, 21, 22, 23, 24, 25, 26, 27, 68, 69, 70, 71, 72, 73, 74, 75, 76] [0, 6, 11, 12] M M2 := by
  by_cases hv : 1 ≤ v ∧ v ≤ 15000
  · obtain ⟨s, b, r, h1, h2, h3⟩ := hI
    refine ⟨nI b, px_uR M 14 (upd (M 14) 2 v), px_uR (px_uR M 14 (upd (M 14) 2 v)) 67 (upd (upd (M 67) 12 v) 11 0), ?_, ?_, ?_, ?_⟩
    · rw [xX11_bar]
      simp only [px_bd_s, px_psh_s, px_psh_n, px_vb_s, px_ib_s, px_wb_s, px_bo_s, px_bo_n, Bool.cond_decide, cond_true, cond_false, ite_not, Bool.and_true, if_true, if_false, not_true_eq_false, not_false_eq_true, i10, eq_self, decide_true, decide_false, Bool.or_true, Bool.true_or, Bool.or_false, Bool.false_or, eX11_bar_0, eX11_bar_0_4, xX7_changeBar, eX7_changeBar_0, eX7_changeBar_12, eX7_changeBar_15, Int32.not_lt.mpr hv.1, hv.2, h1.2.2.2.2.2.2.2.2.1]
    · rw [xX12_bar]
      have e1 : px_uR M 14 (upd (M 14) 2 v) 67 = M 67 := rfl
      simp only [px_bd_s, px_psh_s, px_psh_n, px_vb_s, px_ib_s, px_wb_s, px_bo_s, px_bo_n, Bool.cond_decide, cond_true, cond_false, ite_not, Bool.and_true, if_true, if_false, not_true_eq_false, not_false_eq_true, i10, eq_self, decide_true, decide_false, Bool.or_true, Bool.true_or, Bool.or_false, Bool.false_or, eX12_bar_0, eX12_bar_0_4, eX12_bar_14, c_in, px_in_1 hv, e1, h1.2.2.2.2.2.2.2.2.2.1]
    · obtain ⟨j, hj, rfl⟩ := nI_of2 (x := v) (M := 15000) (n := 15000) (by decide) (Int32.not_lt.mpr (Int32.le_trans (by decide) hv.1)) hv.2
      have hj1 : 1 ≤ j := by
        rcases Nat.eq_zero_or_pos j with q | q
        · subst q
          exact absurd hv.1 (by decide)
        · exact q
      obtain ⟨a1, a2, _, _, a3, a4, a5, a6, _, _, a7, a8⟩ := h1
      exact ⟨s, j, r, ⟨a1, a2, hj1, hj, a3, a4, a5, a6, rfl, rfl, a7, a8⟩, h2, Or.inl rfl⟩
    · have q := (((frm.rf [14, 15, 16, 17, 18, 19, 20, 21, 22, 23, 24, 25, 26, 27, 68, 69, 70, 71, 72, 73, 74, 75, 76] [0, 6, 11, 12] M).u 14 (upd (M 14) 2 v) (by decide) (by decide)).k 12 v (by decide)).k 11 0 (by decide)
      rw [px_uR_2] at q
      exact q
  · refine ⟨-2, M, M, ?_, ?_, hI, frm.rf _ _ _⟩
    · rw [xX11_bar]
      simp only [px_bd_s, px_psh_s, px_psh_n, px_vb_s, px_ib_s, px_wb_s, px_bo_s, px_bo_n, Bool.cond_decide, cond_true, cond_false, ite_not, Bool.and_true, if_true, if_false, not_true_eq_false, not_false_eq_true, i10, eq_self, decide_true, decide_false, Bool.or_true, Bool.true_or, Bool.or_false, Bool.false_or, eX11_bar_0, xX7_changeBar, eX7_changeBar_0]
      by_cases h1 : v < 1
      · simp only [px_bd_s, px_psh_s, px_psh_n, px_vb_s, px_ib_s, px_wb_s, px_bo_s, px_bo_n, Bool.cond_decide, cond_true, cond_false, ite_not, Bool.and_true, if_true, if_false, not_true_eq_false, not_false_eq_true, i10, eq_self, decide_true, decide_false, Bool.or_true, Bool.true_or, Bool.or_false, Bool.false_or, eX11_bar_0_4, eX7_changeBar_12, eX7_changeBar_15, h1]
      · have h2 : ¬ v ≤ 15000 := fun q => hv ⟨Int32.not_lt.mp h1, q⟩
        simp only [px_bd_s, px_psh_s, px_psh_n, px_vb_s, px_ib_s, px_wb_s, px_bo_s, px_bo_n, Bool.cond_decide, cond_true, cond_false, ite_not, Bool.and_true, if_true, if_false, not_true_eq_false, not_false_eq_true, i10, eq_self, decide_true, decide_false, Bool.or_true, Bool.true_or, Bool.or_false, Bool.false_or, eX11_bar_0_4, eX7_changeBar_12, eX7_changeBar_15, h1, h2]
    · rw [xX12_bar]
      simp only [px_bd_s, px_psh_s, px_psh_n, px_vb_s, px_ib_s, px_wb_s, px_bo_s, px_bo_n, Bool.cond_decide, cond_true, cond_false, ite_not, Bool.and_true, if_true, if_false, not_true_eq_false, not_false_eq_true, i10, eq_self, decide_true, decide_false, Bool.or_true, Bool.true_or, Bool.or_false, Bool.false_or, eX12_bar_0, eX12_bar_0_4, eX12_bar_14, c_in, px_in_00 hv]
end S55
