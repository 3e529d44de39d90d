/-! PART 73: the class: what is near a mark -/
def oth (s : Sv) (m k : Nat) : Nat := if Sa s k = m then Sb s k else Sa s k
def nmis (s : Sv) (p : Nat → Int × Int) (m : Nat) (q : Int × Int) (k : Nat) : Int := (rt (sq2 (q.1 - (p (oth s m k)).1) (q.2 - (p (oth s m k)).2)) : Int) - (Sl s k : Int)
def nsum (s : Sv) (p : Nat → Int × Int) (m : Nat) (q : Int × Int) (f : Nat → Nat) : Nat → Int
  | 0 => 0
  | i + 1 => nsum s p m q f i + nmis s p m q (f i) * nmis s p m q (f i)
theorem nsum_s (s : Sv) (p : Nat → Int × Int) (m : Nat) (q : Int × Int) (f : Nat → Nat) (i : Nat) : nsum s p m q f (i + 1) = nsum s p m q f i + nmis s p m q (f i) * nmis s p m q (f i) := rfl
theorem nsum_c (s : Sv) (p : Nat → Int × Int) (m : Nat) (q : Int × Int) {f g : Nat → Nat} : ∀ n, (∀ i, i < n → f i = g i) → nsum s p m q f n = nsum s p m q g n
  | 0, _ => rfl
  | n + 1, h => by
    rw [nsum_s, nsum_s, nsum_c s p m q n (fun i hi => h i (by omega)), h n (by omega)]
theorem nmis_e {s : Sv} (hs : ISt s) (p : Nat → Int × Int) {m k : Nat} (q : Int × Int) (hk : k < St s) (hm : Sa s k = m ∨ Sb s k = m) : sv_mis s (ups p m q) k = nmis s p m q k := by
  obtain ⟨t1, t2, t3, t4, t5⟩ := hs.2.2 k hk
  unfold sv_mis nmis oth
  by_cases h : Sa s k = m
  · rw [if_pos h, h, ups_s, ups_n _ _ (fun z => t3 (h.trans z.symm))]
  · have h2 : Sb s k = m := hm.resolve_left h
    rw [if_neg h, h2, ups_s, ups_n _ _ h]
    rw [sq2_neg (q.1 - (p (Sa s k)).1) (q.2 - (p (Sa s k)).2) _ _ (by omega) (by omega)]
theorem nmis_b {s : Sv} (hs : ISt s) {p : Nat → Int × Int} (hr : rng s 9092 p) {m k : Nat} {q : Int × Int} (hq : q.1.natAbs ≤ 9092 ∧ q.2.natAbs ≤ 9092) (hk : k < St s) (hm : Sa s k = m ∨ Sb s k = m) : -15000 ≤ nmis s p m q k ∧ nmis s p m q k ≤ 25716 := by
  rw [← nmis_e hs p q hk hm]
  exact mis_b hs (rng_ups hr (Nat.le_refl _) hq) hk
theorem nsum_m (s : Sv) (p : Nat → Int × Int) (m : Nat) (q : Int × Int) (f : Nat → Nat) (i : Nat) : ∀ j, nsum s p m q f i ≤ nsum s p m q f (i + j)
  | 0 => Int.le_refl _
  | j + 1 => by
    have h := nsum_m s p m q f i j
    rw [← Nat.add_assoc, nsum_s]
    have := Int.natAbs_mul_self (a := nmis s p m q (f (i + j)))
    omega
theorem ups_id (p : Nat → Int × Int) (m : Nat) : ups p m (p m) = p := by
  funext j
  unfold ups
  split
  · rename_i h
    rw [h]
  · rfl
/-- the class's places of a round; what is out in it -/
def ICp (s : Sv) (r : Nat) (p : Nat → Int × Int) (M : Nat → Nat → Int32) : Prop := ∀ i, i < Sm s → M 21 (8 * r + i) = iI (p i).1 ∧ M 22 (8 * r + i) = iI (p i).2
def ICo (s : Sv) (r : Nat) (o : Nat → Bool) (M : Nat → Nat → Int32) : Prop := ∀ j, j < St s → ∃ q, M 24 j = nI q ∧ q ≤ 99 ∧ (q ≤ r ↔ o j = true)
def ICn (s : Sv) (p : Nat → Int × Int) (m : Nat) (f : Nat → Nat) (n : Nat) (M : Nat → Nat → Int32) : Prop := M 14 14 = nI n ∧ n ≤ St s ∧ ∀ i, i < n → f i < St s ∧ (Sa s (f i) = m ∨ Sb s (f i) = m) ∧ M 25 i = iI (p (oth s m (f i))).1 ∧ M 26 i = iI (p (oth s m (f i))).2 ∧ M 27 i = nI (Sl s (f i))
section S73
variable (d : Nat) (M : Nat → Nat → Int32) (J : Nat → Nat → Int64) (R : Nat → Nat → Option Nat) (c e nL : Nat) (xs : Nat → Int32) (D : px_H)
theorem c_isOut {s : Sv} {r : Nat} {o : Nat → Bool} (hs : ISt s) (hr : r ≤ 24) (ho : ICo s r o M) {j : Nat} (hj : j < St s) : px_ex px_tab (d + 1) 89 [Value.ref (14), Value.int (nI j), Value.int (nI r)] (hp (M) (J) (R) (c) (e) nL xs (D)) = some (some (Value.int (if o j = true then 1 else 0)), (hp (M) (J) (R) (c) (e) nL xs (D))) := by
  have h24 := hs.2.1
  obtain ⟨q, q1, q2, q3⟩ := ho j hj
  rw [xX7_isOut, eX7_isOut_0]
  have x : (nI r < nI q) ↔ ¬ o j = true := by
    rw [nI_ltI (by omega) (by omega), ← q3]
    omega
  simp (disch := omega) only [px_bd_s, px_psh_s, px_psh_n, px_vb_s, px_ib_s, px_wb_s, px_bo_s, px_bo_n, Bool.cond_decide, cond_true, cond_false, ite_not, Bool.and_true, if_true, if_false, not_true_eq_false, not_false_eq_true, i10, eq_self, decide_true, decide_false, Bool.or_true, Bool.true_or, Bool.or_false, Bool.false_or, Bool.false_eq_true, px_inbT, nI_clamp, q1, x]
  by_cases h : o j = true
  · simp only [px_bd_s, px_psh_s, px_psh_n, px_vb_s, px_ib_s, px_wb_s, px_bo_s, px_bo_n, Bool.cond_decide, cond_true, cond_false, ite_not, Bool.and_true, if_true, if_false, not_true_eq_false, not_false_eq_true, i10, eq_self, decide_true, decide_false, Bool.or_true, Bool.true_or, Bool.or_false, Bool.false_or, Bool.false_eq_true, h, eX7_isOut_15]
  · simp only [px_bd_s, px_psh_s, px_psh_n, px_vb_s, px_ib_s, px_wb_s, px_bo_s, px_bo_n, Bool.cond_decide, cond_true, cond_false, ite_not, Bool.and_true, if_true, if_false, not_true_eq_false, not_false_eq_true, i10, eq_self, decide_true, decide_false, Bool.or_true, Bool.true_or, Bool.or_false, Bool.false_or, Bool.false_eq_true, h, eX7_isOut_14, eX7_isOut_15]
theorem c_gat_l {s : Sv} {r m : Nat} {o : Nat → Bool} {p : Nat → Int × Int} (hs : ISt s) (hI : ICt s M) (hm : m < Sm s) (hr : r ≤ 24) (hp' : ICp s r p M) (ho : ICo s r o M) : ∀ (g k n : Nat) (f : Nat → Nat) (M' : Nat → Nat → Int32) (o4 o5 : Option Value), k + g = St s → n ≤ k → frm [14, 25, 26, 27] [] M M' → (∀ j, j ≠ 14 → M' 14 j = M 14 j) → ICn s p m f n M' → (∀ q, sv_sum s o (ups p m q) m k = nsum s p m q f n) → ∃ M1 f1 n1, px_run (px_mk (kX7_gatherNear (px_ex px_tab (d + 1)))) 7 ([some (Value.ref (14)), some (Value.int (nI m)), some (Value.int (nI r)), some (Value.int (nI k)), o4, o5], [], (hp (M') (J) (R) (c) (e) nL xs (D))) = some (none, (hp (M1) (J) (R) (c) (e) nL xs (D))) ∧ frm [14, 25, 26, 27] [] M M1 ∧ (∀ j, j ≠ 14 → M1 14 j = M 14 j) ∧ ICn s p m f1 n1 M1 ∧ ∀ q, sv_sum s o (ups p m q) m (St s) = nsum s p m q f1 n1
  | 0, k, n, f, M', o4, o5, hk, hn, hf, h14, hN, hS => by
    have h24 := hs.2.1
    refine ⟨M', f, n, ?_, hf, h14, hN, fun q => by rw [← hS q, show k = St s from by omega]⟩
    rw [eX7_gatherNear_7]
    simp (disch := omega) only [px_bd_s, px_psh_s, px_psh_n, px_vb_s, px_ib_s, px_wb_s, px_bo_s, px_bo_n, Bool.cond_decide, cond_true, cond_false, ite_not, Bool.and_true, if_true, if_false, not_true_eq_false, not_false_eq_true, i10, eq_self, decide_true, decide_false, Bool.or_true, Bool.true_or, Bool.or_false, Bool.false_or, Bool.false_eq_true, h14 1 (by decide), hI.2.1, nI_leI, if_pos, eX7_gatherNear_146]
  | g + 1, k, n, f, M', o4, o5, hk, hn, hf, h14, hN, hS => by
    have h24 := hs.2.1
    have h8 := hs.1
    obtain ⟨t1, t2, t3, t4, t5⟩ := hs.2.2 k (by omega)
    obtain ⟨i1, i2, i3⟩ := hI.2.2 k (by omega)
    have e18 : M' 18 k = nI (Sa s k) := by
      rw [hf.1 18 (by decide) (by decide)]
      exact i1
    have e19 : M' 19 k = nI (Sb s k) := by
      rw [hf.1 19 (by decide) (by decide)]
      exact i2
    have e20 : M' 20 k = nI (Sl s k) := by
      rw [hf.1 20 (by decide) (by decide)]
      exact i3
    have ho' : ICo s r o M' := by
      unfold ICo
      rw [hf.1 24 (by decide) (by decide)]
      exact ho
    have io := c_isOut d M' J R c e nL xs D hs hr ho' (j := k) (by omega)
    have x0 : ¬ nI (St s) ≤ nI k := fun q => by
      have := (nI_leI (by omega) (by omega)).mp q
      omega
    have xa : (nI (Sa s k) = nI m) ↔ Sa s k = m := nI_eq (by omega) (by omega)
    have xb : (nI (Sb s k) = nI m) ↔ Sb s k = m := nI_eq (by omega) (by omega)
    have no : ¬ (o k = false ∧ (Sa s k = m ∨ Sb s k = m)) → px_run (px_mk (kX7_gatherNear (px_ex px_tab (d + 1)))) 7 ([some (Value.ref (14)), some (Value.int (nI m)), some (Value.int (nI r)), some (Value.int (nI k)), o4, o5], [], (hp (M') (J) (R) (c) (e) nL xs (D))) = px_run (px_mk (kX7_gatherNear (px_ex px_tab (d + 1)))) 7 ([some (Value.ref (14)), some (Value.int (nI m)), some (Value.int (nI r)), some (Value.int (nI (k + 1))), none, none], [], (hp (M') (J) (R) (c) (e) nL xs (D))) := by
      intro hc
      rw [eX7_gatherNear_7]
      by_cases h1 : o k = true
      · by_cases h2 : Sa s k = m
        · simp (disch := omega) only [px_bd_s, px_psh_s, px_psh_n, px_vb_s, px_ib_s, px_wb_s, px_bo_s, px_bo_n, Bool.cond_decide, cond_true, cond_false, ite_not, Bool.and_true, if_true, if_false, not_true_eq_false, not_false_eq_true, i10, eq_self, decide_true, decide_false, Bool.or_true, Bool.true_or, Bool.or_false, Bool.false_or, Bool.false_eq_true, h14 1 (by decide), hI.2.1, x0, px_inbT, nI_clamp, e18, xa, h2, eX7_gatherNear_30, io, h1, eX7_gatherNear_30_5, eX7_gatherNear_140, zp1]
        · simp (disch := omega) only [px_bd_s, px_psh_s, px_psh_n, px_vb_s, px_ib_s, px_wb_s, px_bo_s, px_bo_n, Bool.cond_decide, cond_true, cond_false, ite_not, Bool.and_true, if_true, if_false, not_true_eq_false, not_false_eq_true, i10, eq_self, decide_true, decide_false, Bool.or_true, Bool.true_or, Bool.or_false, Bool.false_or, Bool.false_eq_true, h14 1 (by decide), hI.2.1, x0, px_inbT, nI_clamp, e18, xa, h2, eX7_gatherNear_29, eX7_gatherNear_30, io, h1, eX7_gatherNear_30_5, eX7_gatherNear_140, zp1]
      · have h1' : o k = false := by
          cases h : o k
          · rfl
          · exact absurd h h1
        have h2 : ¬ Sa s k = m := fun z => hc ⟨h1', Or.inl z⟩
        have h3 : ¬ Sb s k = m := fun z => hc ⟨h1', Or.inr z⟩
        simp (disch := omega) only [px_bd_s, px_psh_s, px_psh_n, px_vb_s, px_ib_s, px_wb_s, px_bo_s, px_bo_n, Bool.cond_decide, cond_true, cond_false, ite_not, Bool.and_true, if_true, if_false, not_true_eq_false, not_false_eq_true, i10, eq_self, decide_true, decide_false, Bool.or_true, Bool.true_or, Bool.or_false, Bool.false_or, Bool.false_eq_true, h14 1 (by decide), hI.2.1, x0, px_inbT, nI_clamp, e18, e19, xa, xb, h2, h3, eX7_gatherNear_29, eX7_gatherNear_30, io, h1, eX7_gatherNear_30_5, eX7_gatherNear_140, zp1]
    by_cases hc : o k = false ∧ (Sa s k = m ∨ Sb s k = m)
    · have ot : oth s m k < Sm s := by
        unfold oth
        split <;> omega
      obtain ⟨p1, p2⟩ := hp' _ ot
      have e21 : M' 21 (8 * r + oth s m k) = iI (p (oth s m k)).1 := by
        rw [hf.1 21 (by decide) (by decide)]
        exact p1
      have e22 : M' 22 (8 * r + oth s m k) = iI (p (oth s m k)).2 := by
        rw [hf.1 22 (by decide) (by decide)]
        exact p2
      have h1 : ¬ o k = true := fun z => by
        rw [hc.1] at z
        cases z
      have e8 : (8 : Int32) * nI r = nI (8 * r) := pk_mul 8 r
      have yes : px_run (px_mk (kX7_gatherNear (px_ex px_tab (d + 1)))) 7 ([some (Value.ref (14)), some (Value.int (nI m)), some (Value.int (nI r)), some (Value.int (nI k)), o4, o5], [], (hp (M') (J) (R) (c) (e) nL xs (D))) = px_run (px_mk (kX7_gatherNear (px_ex px_tab (d + 1)))) 7 ([some (Value.ref (14)), some (Value.int (nI m)), some (Value.int (nI r)), some (Value.int (nI (k + 1))), none, none], [], (hp (px_uR (px_uR (px_uR (px_uR M' 25 (upd (M' 25) n (iI (p (oth s m k)).1))) 26 (upd (M' 26) n (iI (p (oth s m k)).2))) 27 (upd (M' 27) n (nI (Sl s k)))) 14 (upd (M' 14) 14 (nI (n + 1)))) (J) (R) (c) (e) nL xs (D))) := by
        rw [eX7_gatherNear_7]
        by_cases h2 : Sa s k = m
        · have eo : oth s m k = Sb s k := if_pos h2
          rw [eo] at e21 e22 ⊢
          simp (disch := omega) only [px_bd_s, px_psh_s, px_psh_n, px_vb_s, px_ib_s, px_wb_s, px_bo_s, px_bo_n, Bool.cond_decide, cond_true, cond_false, ite_not, Bool.and_true, if_true, if_false, not_true_eq_false, not_false_eq_true, i10, eq_self, decide_true, decide_false, Bool.or_true, Bool.true_or, Bool.or_false, Bool.false_or, Bool.false_eq_true, h14 1 (by decide), hI.2.1, x0, px_inbT, nI_clamp, e18, e19, e20, xa, h2, eX7_gatherNear_30, io, h1, eX7_gatherNear_30_5, eX7_gatherNear_56, eX7_gatherNear_80, e8, nI_add, hN.1, e21, e22, eX7_gatherNear_140, zp1]
        · have eo : oth s m k = Sa s k := if_neg h2
          have h3 : Sb s k = m := hc.2.resolve_left h2
          rw [eo] at e21 e22 ⊢
          simp (disch := omega) only [px_bd_s, px_psh_s, px_psh_n, px_vb_s, px_ib_s, px_wb_s, px_bo_s, px_bo_n, Bool.cond_decide, cond_true, cond_false, ite_not, Bool.and_true, if_true, if_false, not_true_eq_false, not_false_eq_true, i10, eq_self, decide_true, decide_false, Bool.or_true, Bool.true_or, Bool.or_false, Bool.false_or, Bool.false_eq_true, h14 1 (by decide), hI.2.1, x0, px_inbT, nI_clamp, e18, e19, e20, xa, xb, h2, h3, eX7_gatherNear_29, eX7_gatherNear_30, io, h1, eX7_gatherNear_30_5, eX7_gatherNear_56, eX7_gatherNear_74, eX7_gatherNear_80, e8, nI_add, hN.1, e21, e22, eX7_gatherNear_140, zp1]
      rw [yes]
      refine c_gat_l hs hI hm hr hp' ho g (k + 1) (n + 1) (ups' f n k) _ none none (by omega) (by omega) ((((hf.u 25 _ (by decide) (by decide)).u 26 _ (by decide) (by decide)).u 27 _ (by decide) (by decide)).u 14 _ (by decide) (by decide)) (fun j hj => ?_) ⟨?_, by omega, fun i hi => ?_⟩ (fun q => ?_)
      · show upd (M' 14) 14 (nI (n + 1)) j = M 14 j
        rw [pk_un hj]
        exact h14 j hj
      · show upd (M' 14) 14 (nI (n + 1)) 14 = nI (n + 1)
        exact pk_us
      · show ups' f n k i < St s ∧ (Sa s (ups' f n k i) = m ∨ Sb s (ups' f n k i) = m) ∧ upd (M' 25) n (iI (p (oth s m k)).1) i = iI (p (oth s m (ups' f n k i))).1 ∧ upd (M' 26) n (iI (p (oth s m k)).2) i = iI (p (oth s m (ups' f n k i))).2 ∧ upd (M' 27) n (nI (Sl s k)) i = nI (Sl s (ups' f n k i))
        by_cases ei : i = n
        · subst ei
          rw [ups'_s, pk_us, pk_us, pk_us]
          exact ⟨by omega, hc.2, rfl, rfl, rfl⟩
        · rw [ups'_n _ _ ei, pk_un ei, pk_un ei, pk_un ei]
          exact hN.2.2 i (by omega)
      · rw [sv_sum_s, if_pos hc, hS q, nsum_s, ups'_s, nmis_e hs p q (by omega) hc.2, nsum_c s p m q n (fun i hi => ups'_n f k (by omega))]
    · rw [no hc]
      refine c_gat_l hs hI hm hr hp' ho g (k + 1) n f M' none none (by omega) (by omega) hf h14 hN (fun q => ?_)
      rw [sv_sum_s, if_neg hc, Int.add_zero]
      exact hS q
theorem c_gather {s : Sv} {r m : Nat} {o : Nat → Bool} {p : Nat → Int × Int} (hs : ISt s) (hI : ICt s M) (hm : m < Sm s) (hr : r ≤ 24) (hp' : ICp s r p M) (ho : ICo s r o M) : ∃ M1 f1 n1, px_ex px_tab (d + 2) 94 [Value.ref (14), Value.int (nI m), Value.int (nI r)] (hp (M) (J) (R) (c) (e) nL xs (D)) = some (none, (hp (M1) (J) (R) (c) (e) nL xs (D))) ∧ frm [14, 25, 26, 27] [] M M1 ∧ (∀ j, j ≠ 14 → M1 14 j = M 14 j) ∧ ICn s p m f1 n1 M1 ∧ ∀ q, sv_sum s o (ups p m q) m (St s) = nsum s p m q f1 n1 := by
  obtain ⟨M1, f1, n1, q1, q2⟩ := c_gat_l d M J R c e nL xs D hs hI hm hr hp' ho (St s) 0 0 (fun i => i) (px_uR M 14 (upd (M 14) 14 0)) none none (by omega) (by omega) ((frm.rf _ _ M).u 14 _ (by decide) (by decide)) (fun j hj => by
    show upd (M 14) 14 0 j = M 14 j
    exact pk_un hj) ⟨show upd (M 14) 14 0 14 = nI 0 from pk_us, Nat.zero_le _, fun i hi => by omega⟩ (fun q => rfl)
  refine ⟨M1, f1, n1, ?_, q2⟩
  rw [xX7_gatherNear, eX7_gatherNear_0]
  exact q1
theorem c_near_l {s : Sv} {m n : Nat} {p : Nat → Int × Int} {f : Nat → Nat} {q : Int × Int} (hs : ISt s) (hN : ICn s p m f n M) (hm : m < Sm s) (hr : rng s 9092 p) (hq : q.1.natAbs ≤ 9092 ∧ q.2.natAbs ≤ 9092) {L : Int} (hL : 0 ≤ L ∧ L ≤ 4611686018427387904) : ∀ (g i : Nat) (o8 o9 : Option Value), i + g = n → nsum s p m q f i ≤ i * 661312656 → ∃ w : Int, px_run (px_mk (kX7_nearSquares (px_ex px_tab (d + 1)))) 6 ([some (Value.ref (14)), some (Value.int (iI q.1)), some (Value.int (iI q.2)), some (Value.long (iL L)), none, some (Value.long (iL (nsum s p m q f i))), none, some (Value.int (nI i)), o8, o9], [], (hp (M) (J) (R) (c) (e) nL xs (D))) = some (some (Value.long (iL w)), (hp (M) (J) (R) (c) (e) nL xs (D))) ∧ 0 ≤ w ∧ w ≤ 24 * 661312656 ∧ (w = nsum s p m q f n ∨ (L ≤ w ∧ L ≤ nsum s p m q f n)) := by
  intro g
  induction g with
  | zero =>
    intro i o8 o9 hi hb
    have h24 := hs.2.1
    have hn := hN.2.1
    have pos : (0 : Int) ≤ nsum s p m q f i := by
      have := nsum_m s p m q f 0 i
      rw [Nat.zero_add] at this
      exact this
    refine ⟨nsum s p m q f i, ?_, pos, by omega, Or.inl (by rw [show i = n from by omega])⟩
    rw [eX7_nearSquares_6]
    simp (disch := omega) only [px_bd_s, px_psh_s, px_psh_n, px_vb_s, px_ib_s, px_wb_s, px_bo_s, px_bo_n, Bool.cond_decide, cond_true, cond_false, ite_not, Bool.and_true, if_true, if_false, not_true_eq_false, not_false_eq_true, i10, eq_self, decide_true, decide_false, Bool.or_true, Bool.true_or, Bool.or_false, Bool.false_or, Bool.false_eq_true, hN.1, nI_leI, if_pos, eX7_nearSquares_77]
  | succ g ih =>
    intro i o8 o9 hi hb
    have h24 := hs.2.1
    have h8 := hs.1
    have hn := hN.2.1
    obtain ⟨f1, f2, f3, f4, f5⟩ := hN.2.2 i (by omega)
    obtain ⟨t1, t2, t3, t4, t5⟩ := hs.2.2 (f i) f1
    have pos : (0 : Int) ≤ nsum s p m q f i := by
      have := nsum_m s p m q f 0 i
      rw [Nat.zero_add] at this
      exact this
    have x0 : ¬ nI n ≤ nI i := fun z => by
      have := (nI_leI (by omega) (by omega)).mp z
      omega
    have cm : (0 ≤ lg_cmp (iL (nsum s p m q f i)) (iL L)) ↔ L ≤ nsum s p m q f i := by
      rw [lg_cmp_ge, iL_le hL (by omega)]
    by_cases hl : L ≤ nsum s p m q f i
    · refine ⟨nsum s p m q f i, ?_, pos, by omega, Or.inr ⟨hl, Int.le_trans hl (by have := nsum_m s p m q f i (g + 1); rw [hi] at this; exact this)⟩⟩
      rw [eX7_nearSquares_6]
      simp only [px_bd_s, px_psh_s, px_psh_n, px_vb_s, px_ib_s, px_wb_s, px_bo_s, px_bo_n, Bool.cond_decide, cond_true, cond_false, ite_not, Bool.and_true, if_true, if_false, not_true_eq_false, not_false_eq_true, i10, eq_self, decide_true, decide_false, Bool.or_true, Bool.true_or, Bool.or_false, Bool.false_or, Bool.false_eq_true, hN.1, x0, cm, hl, eX7_nearSquares_77]
    · have ot : oth s m (f i) < Sm s := by
        unfold oth
        split <;> omega
      obtain ⟨r1, r2⟩ := hr _ ot
      have sb := sq2_b (u := q.1 - (p (oth s m (f i))).1) (v := q.2 - (p (oth s m (f i))).2) (by omega) (by omega)
      have cd := c_dist d M J R c e nL xs D (s := sq2 (q.1 - (p (oth s m (f i))).1) (q.2 - (p (oth s m (f i))).2)) (by omega) t4 t5 (iI (q.1 - (p (oth s m (f i))).1)) (iI (q.2 - (p (oth s m (f i))).2)) (sq2_I _ _)
      have nb := nmis_b hs hr hq f1 f2
      have nb2 : (nmis s p m q (f i)).natAbs * (nmis s p m q (f i)).natAbs ≤ 25716 * 25716 := Nat.mul_le_mul (by omega) (by omega)
      have nb3 := Int.natAbs_mul_self (a := nmis s p m q (f i))
      have em : nI (rt (sq2 (q.1 - (p (oth s m (f i))).1) (q.2 - (p (oth s m (f i))).2))) - nI (Sl s (f i)) = iI (nmis s p m q (f i)) := by
        rw [← iI_nat, ← iI_nat, iI_sub]
        rfl
      have eL := iI_L (z := nmis s p m q (f i)) (by omega) (by omega)
      obtain ⟨w, w1, w2⟩ := ih (i + 1) (some (.long (iL (nmis s p m q (f i))))) none (by omega) (by rw [nsum_s]; omega)
      refine ⟨w, ?_, w2⟩
      refine Eq.trans ?_ w1
      rw [eX7_nearSquares_6]
      simp (disch := omega) only [px_bd_s, px_psh_s, px_psh_n, px_vb_s, px_ib_s, px_wb_s, px_bo_s, px_bo_n, Bool.cond_decide, cond_true, cond_false, ite_not, Bool.and_true, if_true, if_false, not_true_eq_false, not_false_eq_true, i10, eq_self, decide_true, decide_false, Bool.or_true, Bool.true_or, Bool.or_false, Bool.false_or, Bool.false_eq_true, hN.1, x0, cm, hl, px_inbT, nI_clamp, f3, f4, f5, iI_sub, cd, eX7_nearSquares_6_25, em, eL, iL_mul, iL_add, zp1]
      rw [nsum_s]
theorem c_near {s : Sv} {m n : Nat} {p : Nat → Int × Int} {f : Nat → Nat} {q : Int × Int} (hs : ISt s) (hN : ICn s p m f n M) (hm : m < Sm s) (hr : rng s 9092 p) (hq : q.1.natAbs ≤ 9092 ∧ q.2.natAbs ≤ 9092) {L : Int} (hL : 0 ≤ L ∧ L ≤ 4611686018427387904) : ∃ w : Int, px_ex px_tab (d + 2) 96 [Value.ref (14), Value.int (iI q.1), Value.int (iI q.2), Value.long (iL L)] (hp (M) (J) (R) (c) (e) nL xs (D)) = some (some (Value.long (iL w)), (hp (M) (J) (R) (c) (e) nL xs (D))) ∧ 0 ≤ w ∧ w ≤ 24 * 661312656 ∧ (w = nsum s p m q f n ∨ (L ≤ w ∧ L ≤ nsum s p m q f n)) := by
  obtain ⟨w, w1, w2⟩ := c_near_l d M J R c e nL xs D hs hN hm hr hq hL n 0 none none (by omega) (by show (0 : Int) ≤ (0 : Nat) * 661312656; omega)
  refine ⟨w, ?_, w2⟩
  rw [xX7_nearSquares, eX7_nearSquares_0]
  exact w1
end S73
