/-! PART 83: READING: the state of it, and what a step does to it -/
abbrev PS := Nat × Nat × Nat × Int32 × Nat × (Nat → Nat) × (Nat → Int32)
def Pb (S : PS) : Nat := S.1
def Pa (S : PS) : Nat := S.2.1
def Pt (S : PS) : Nat := S.2.2.1
def Pv (S : PS) : Int32 := S.2.2.2.1
def Pn (S : PS) : Nat := S.2.2.2.2.1
def Pc (S : PS) : Nat → Nat := S.2.2.2.2.2.1
def Pl (S : PS) : Nat → Int32 := S.2.2.2.2.2.2
def PV (n : Nat) (S : PS) : Prop := Pb S ≤ Pa S ∧ Pa S ≤ n ∧ n ≤ 160 ∧ Pt S ≤ 61 ∧ (Pt S ≠ 0 → Pb S < Pa S) ∧ Pn S ≤ Pb S ∧ ∀ i, i < Pn S → Pc S i ≤ 10
def nx (T : Nat → Nat) (n : Nat) (S : PS) : PS := (skp T n (Pa S), (tka T n (skp T n (Pa S))).1, (tka T n (skp T n (Pa S))).2.1, (tka T n (skp T n (Pa S))).2.2, Pn S, Pc S, Pl S)
def em (S : PS) (j : Nat) (v : Int32) : PS := (Pb S, Pa S, Pt S, Pv S, Pn S + 1, ups' (Pc S) (Pn S) j, ups' (Pl S) (Pn S) v)
theorem nx_V (T : Nat → Nat) {n : Nat} {S : PS} (h : PV n S) : PV n (nx T n S) ∧ Pa S ≤ Pb (nx T n S) := by
  obtain ⟨h1, h2, h3, h4, h5, h6, h7⟩ := h
  have s := skp_b T h2
  obtain ⟨t1, t2, t3, t4, t5⟩ := tka_b T s.2
  refine ⟨⟨t1, t2, h3, t3, t4, ?_, h7⟩, s.1⟩
  show Pn S ≤ skp T n (Pa S)
  omega
theorem em_V {n : Nat} {S : PS} (h : PV n S) {j : Nat} (hj : j ≤ 10) (hn : Pn S < Pb S) (v : Int32) : PV n (em S j v) := by
  obtain ⟨h1, h2, h3, h4, h5, h6, h7⟩ := h
  refine ⟨h1, h2, h3, h4, h5, hn, fun i hi => ?_⟩
  have hi' : i < Pn S + 1 := hi
  show ups' (Pc S) (Pn S) j i ≤ 10
  by_cases e : i = Pn S
  · subst e
    rw [ups'_s]
    exact hj
  · rw [ups'_n _ _ e]
    exact h7 i (by omega)
def wfT (cd : Nat → Nat) : Nat → Nat → Nat → Nat → Prop
  | 0, _, t, t' => t = t'
  | g + 1, k, t, t' => okk (cd k) t ∧ wfT cd g (k + 1) (tpp (cd k) t) t'
theorem wfT_app (cd : Nat → Nat) : ∀ (g h k t t1 t2 : Nat), wfT cd g k t t1 → wfT cd h (k + g) t1 t2 → wfT cd (g + h) k t t2
  | 0, h, k, t, t1, t2, h1, h2 => by
    have e : t = t1 := h1
    subst e
    rw [Nat.zero_add]
    exact h2
  | g + 1, h, k, t, t1, t2, h1, h2 => by
    rw [show g + 1 + h = (g + h) + 1 from by omega]
    refine ⟨h1.1, wfT_app cd g h (k + 1) _ t1 t2 h1.2 ?_⟩
    rw [show k + 1 + g = k + (g + 1) from by omega]
    exact h2
theorem wfT_c {cd cd' : Nat → Nat} : ∀ (g k t t' : Nat), (∀ i, k ≤ i → i < k + g → cd i = cd' i) → wfT cd g k t t' → wfT cd' g k t t'
  | 0, _, _, _, _, h => h
  | g + 1, k, t, t', hc, h => by
    refine ⟨?_, ?_⟩
    · rw [← hc k (Nat.le_refl _) (by omega)]
      exact h.1
    · rw [← hc k (Nat.le_refl _) (by omega)]
      exact wfT_c g (k + 1) _ _ (fun i h1 h2 => hc i (by omega) (by omega)) h.2
theorem wfT_R (cd : Nat → Nat) : ∀ (g k t : Nat), wfT cd g k t 1 → wfR cd g k t
  | 0, _, _, h => h
  | g + 1, k, t, h => ⟨h.1, wfT_R cd g (k + 1) _ h.2⟩
theorem wfT_1 {cd : Nat → Nat} {k t : Nat} (h : okk (cd k) t) : wfT cd 1 k t (tpp (cd k) t) := ⟨h, rfl⟩
def PX (S S' : PS) : Prop := Pn S ≤ Pn S' ∧ ∀ i, i < Pn S → Pc S' i = Pc S i ∧ Pl S' i = Pl S i
theorem PX.tr {S S1 S2 : PS} (h : PX S S1) (h2 : PX S1 S2) : PX S S2 := ⟨Nat.le_trans h.1 h2.1, fun i hi => ⟨((h2.2 i (Nat.lt_of_lt_of_le hi h.1)).1).trans (h.2 i hi).1, ((h2.2 i (Nat.lt_of_lt_of_le hi h.1)).2).trans (h.2 i hi).2⟩⟩
theorem em_X (S : PS) (j : Nat) (v : Int32) : PX S (em S j v) := ⟨by show Pn S ≤ Pn S + 1; omega, fun i hi => ⟨ups'_n _ _ (by omega), ups'_n _ _ (by omega)⟩⟩
/-- an expression was read; a loop's further ones were -/
def PG (n : Nat) (S S' : PS) : Prop := PV n S' ∧ PX S S' ∧ Pb S < Pb S' ∧ Pn S' + Pb S ≤ Pn S + Pb S' ∧ Pn S < Pn S' ∧ ∀ t, t ≤ Pn S → wfT (Pc S') (Pn S' - Pn S) (Pn S) t (t + 1)
def PL (n : Nat) (S S' : PS) : Prop := PV n S' ∧ PX S S' ∧ Pb S ≤ Pb S' ∧ Pn S' + Pb S ≤ Pn S + Pb S' ∧ ∀ t, 1 ≤ t → t ≤ Pn S → wfT (Pc S') (Pn S' - Pn S) (Pn S) t t
theorem PL.rf {n : Nat} {S : PS} (h : PV n S) : PL n S S := ⟨h, ⟨Nat.le_refl _, fun _ _ => ⟨rfl, rfl⟩⟩, Nat.le_refl _, Nat.le_refl _, fun t _ _ => by
  rw [Nat.sub_self]
  exact rfl⟩
theorem wfT_j {S S1 S2 : PS} (h1 : PX S S1) (h2 : PX S1 S2) {t t1 t2 : Nat} (w1 : wfT (Pc S1) (Pn S1 - Pn S) (Pn S) t t1) (w2 : wfT (Pc S2) (Pn S2 - Pn S1) (Pn S1) t1 t2) : wfT (Pc S2) (Pn S2 - Pn S) (Pn S) t t2 := by
  have a := h1.1
  have b := h2.1
  rw [show Pn S2 - Pn S = (Pn S1 - Pn S) + (Pn S2 - Pn S1) from by omega]
  refine wfT_app _ _ _ _ _ t1 _ (wfT_c _ _ _ _ (fun i h3 h4 => ((h2.2 i (by omega)).1).symm) w1) ?_
  rw [show Pn S + (Pn S1 - Pn S) = Pn S1 from by omega]
  exact w2
theorem PL.tr {n : Nat} {S S1 S2 : PS} (h : PL n S S1) (h2 : PL n S1 S2) : PL n S S2 := by
  obtain ⟨a1, a2, a3, a4, a5⟩ := h
  obtain ⟨b1, b2, b3, b4, b5⟩ := h2
  refine ⟨b1, a2.tr b2, by omega, by omega, fun t h1 h2 => wfT_j a2 b2 (a5 t h1 h2) (b5 t h1 (by have := a2.1; omega))⟩
theorem PG.pl {n : Nat} {S S1 S2 : PS} (h : PG n S S1) (h2 : PL n S1 S2) : PG n S S2 := by
  obtain ⟨a1, a2, a3, a4, a5, a6⟩ := h
  obtain ⟨b1, b2, b3, b4, b5⟩ := h2
  have := b2.1
  exact ⟨b1, a2.tr b2, by omega, by omega, by omega, fun t ht => wfT_j a2 b2 (a6 t ht) (b5 (t + 1) (by omega) (by omega))⟩
/-- an operation between two -/
theorem PL_2 {T : Nat → Nat} {n : Nat} {S S2 : PS} (hV : PV n S) (ht : Pt S ≠ 0) (h : PG n (nx T n S) S2) {j : Nat} (h10 : j ≤ 10) (h01 : ¬ (j = 0 ∨ j = 1)) (h4 : ¬ (j = 4 ∨ j = 10)) : PL n S (em S2 j 0) ∧ Pn S2 < Pb S2 ∧ Pb S < Pb S2 := by
  obtain ⟨v1, v2⟩ := nx_V T hV
  have hb := hV.2.2.2.2.1 ht
  have hn6 := hV.2.2.2.2.2.1
  have e0 : Pn (nx T n S) = Pn S := rfl
  obtain ⟨a1, a2, a3, a4, a5, a6⟩ := h
  rw [e0] at a4 a5 a6
  have hn : Pn S2 < Pb S2 := by omega
  refine ⟨⟨em_V a1 h10 hn 0, PX.tr a2 (em_X S2 j 0), ?_, ?_, fun t h1 h2 => ?_⟩, hn, by omega⟩
  · show Pb S ≤ Pb S2
    omega
  · show Pn S2 + 1 + Pb S ≤ Pn S + Pb S2
    omega
  · have a2' : PX S S2 := a2
    refine wfT_j a2' (em_X S2 j 0) (a6 t h2) ?_
    show wfT (ups' (Pc S2) (Pn S2) j) (Pn S2 + 1 - Pn S2) (Pn S2) (t + 1) t
    rw [show Pn S2 + 1 - Pn S2 = 1 from by omega]
    have v := a1.2.2.1
    have v2 := a1.1
    have v3 := a1.2.1
    have ok : okk (ups' (Pc S2) (Pn S2) j (Pn S2)) (t + 1) := by
      rw [ups'_s]
      refine ⟨h10, ?_⟩
      rw [if_neg h01, if_neg h4]
      omega
    have w := wfT_1 ok
    have e1 : tpp (ups' (Pc S2) (Pn S2) j (Pn S2)) (t + 1) = t := by
      rw [ups'_s]
      unfold tpp
      rw [if_neg h01, if_neg h4]
      omega
    rw [e1] at w
    exact w
/-- an operation on one -/
theorem PG_1 {T : Nat → Nat} {n : Nat} {S S2 : PS} (hV : PV n S) (ht : Pt S ≠ 0) (h : PG n (nx T n S) S2) {j : Nat} (h4 : j = 4 ∨ j = 10) : PG n S (em S2 j 0) ∧ Pn S2 < Pb S2 := by
  obtain ⟨v1, v2⟩ := nx_V T hV
  have hb := hV.2.2.2.2.1 ht
  have hn6 := hV.2.2.2.2.2.1
  have e0 : Pn (nx T n S) = Pn S := rfl
  obtain ⟨a1, a2, a3, a4, a5, a6⟩ := h
  rw [e0] at a4 a5 a6
  have hn : Pn S2 < Pb S2 := by omega
  refine ⟨⟨em_V a1 (by omega) hn 0, PX.tr a2 (em_X S2 j 0), ?_, ?_, ?_, fun t h2 => ?_⟩, hn⟩
  · show Pb S < Pb S2
    omega
  · show Pn S2 + 1 + Pb S ≤ Pn S + Pb S2
    omega
  · show Pn S < Pn S2 + 1
    omega
  · have a2' : PX S S2 := a2
    refine wfT_j a2' (em_X S2 j 0) (a6 t h2) ?_
    show wfT (ups' (Pc S2) (Pn S2) j) (Pn S2 + 1 - Pn S2) (Pn S2) (t + 1) (t + 1)
    rw [show Pn S2 + 1 - Pn S2 = 1 from by omega]
    have v := a1.2.2.1
    have v2 := a1.1
    have v3 := a1.2.1
    have ok : okk (ups' (Pc S2) (Pn S2) j (Pn S2)) (t + 1) := by
      rw [ups'_s]
      refine ⟨by omega, ?_⟩
      rw [if_neg (by omega), if_pos h4]
      omega
    have w := wfT_1 ok
    have e1 : tpp (ups' (Pc S2) (Pn S2) j (Pn S2)) (t + 1) = t + 1 := by
      rw [ups'_s]
      unfold tpp
      rw [if_neg (by omega), if_pos h4]
    rw [e1] at w
    exact w
/-- a number or a name -/
theorem PG_0 {T : Nat → Nat} {n : Nat} {S : PS} (hV : PV n S) (ht : Pt S ≠ 0) {j : Nat} (h4 : j = 0 ∨ j = 1) (v : Int32) : PG n S (nx T n (em S j v)) := by
  have hb := hV.2.2.2.2.1 ht
  have hn6 := hV.2.2.2.2.2.1
  have h160 := hV.2.2.1
  have han := hV.2.1
  have s := skp_b T han
  obtain ⟨t1, t2, t3, t4, t5⟩ := tka_b T s.2
  refine ⟨⟨t1, t2, h160, t3, t4, ?_, fun i hi => ?_⟩, em_X S j v, ?_, ?_, ?_, fun t h2 => ?_⟩
  · show Pn S + 1 ≤ skp T n (Pa S)
    omega
  · have hi' : i < Pn S + 1 := hi
    show ups' (Pc S) (Pn S) j i ≤ 10
    by_cases e : i = Pn S
    · subst e
      rw [ups'_s]
      omega
    · rw [ups'_n _ _ e]
      exact hV.2.2.2.2.2.2 i (by omega)
  · show Pb S < skp T n (Pa S)
    omega
  · show Pn S + 1 + Pb S ≤ Pn S + skp T n (Pa S)
    omega
  · show Pn S < Pn S + 1
    omega
  · show wfT (ups' (Pc S) (Pn S) j) (Pn S + 1 - Pn S) (Pn S) t (t + 1)
    rw [show Pn S + 1 - Pn S = 1 from by omega]
    have ok : okk (ups' (Pc S) (Pn S) j (Pn S)) t := by
      rw [ups'_s]
      refine ⟨by omega, ?_⟩
      rw [if_pos h4]
      omega
    have w := wfT_1 ok
    have e1 : tpp (ups' (Pc S) (Pn S) j (Pn S)) t = t + 1 := by
      rw [ups'_s]
      unfold tpp
      rw [if_pos h4]
    rw [e1] at w
    exact w
/-- between round signs -/
theorem PG_p {T : Nat → Nat} {n : Nat} {S S2 : PS} (hV : PV n S) (ht : Pt S ≠ 0) (h : PG n (nx T n S) S2) : PG n S (nx T n S2) := by
  obtain ⟨v1, v2⟩ := nx_V T hV
  have hb := hV.2.2.2.2.1 ht
  have e0 : Pn (nx T n S) = Pn S := rfl
  obtain ⟨a1, a2, a3, a4, a5, a6⟩ := h
  rw [e0] at a4 a5 a6
  obtain ⟨w1, w2⟩ := nx_V T a1
  have a1b := a1.1
  have e2 : Pn (nx T n S2) = Pn S2 := rfl
  refine ⟨w1, a2, ?_, ?_, a5, a6⟩
  · omega
  · rw [e2]
    omega
/-- the class's side of a reading, and the model's -/
def CP (e : Nat) (T : Nat → Nat) (n : Nat) (S : PS) (M : Nat → Nat → Int32) : Prop := CT T n M ∧ TKc (Pb S) (Pa S, Pt S, Pv S) M ∧ M e 1 = nI (Pn S) ∧ ∀ i, i < Pn S → M (e + 2) i = nI (cls (Pc S i)) ∧ M (e + 3) i = Pl S i
def MP (T : Nat → Nat) (n : Nat) (S : PS) (M : Nat → Nat → Int32) : Prop := MT T n M ∧ IWd M ∧ TKm (Pb S) (Pa S, Pt S, Pv S) M ∧ M 67 56 = 1 ∧ M 67 63 = nI (Pn S) ∧ ∀ i, i < Pn S → M 96 (160 + i) = nI (Pc S i) ∧ M 97 (160 + i) = Pl S i
def CF (e : Nat) (M M1 : Nat → Nat → Int32) : Prop := frm [37, e, e + 2, e + 3] [] M M1 ∧ (∀ k, k < 4 → M1 37 k = M 37 k) ∧ ∀ k, k ≠ 1 → M1 e k = M e k
def MF (M M1 : Nat → Nat → Int32) : Prop := frm [96, 97] [57, 58, 59, 60, 61, 62, 63] M M1 ∧ ∀ i, i < 160 → M1 96 i = M 96 i ∧ M1 97 i = M 97 i
def CN (e : Nat) (T : Nat → Nat) (n b : Nat) (M : Nat → Nat → Int32) : Prop := CT T n M ∧ M 37 4 = nI b ∧ ∃ N, N ≤ 160 ∧ M e 1 = nI N
def MN (N : Nat) (M : Nat → Nat → Int32) : Prop := M 67 56 = 1 ∧ M 67 63 = nI N
theorem CF.rf (e : Nat) (M : Nat → Nat → Int32) : CF e M M := ⟨frm.rf _ _ _, fun _ _ => rfl, fun _ _ => rfl⟩
theorem CF.tr {e : Nat} {M M1 M2 : Nat → Nat → Int32} (h : CF e M M1) (h2 : CF e M1 M2) : CF e M M2 := ⟨h.1.tr h2.1, fun k hk => (h2.2.1 k hk).trans (h.2.1 k hk), fun k hk => (h2.2.2 k hk).trans (h.2.2 k hk)⟩
theorem MF.rf (M : Nat → Nat → Int32) : MF M M := ⟨frm.rf _ _ _, fun _ _ => ⟨rfl, rfl⟩⟩
theorem MF.tr {M M1 M2 : Nat → Nat → Int32} (h : MF M M1) (h2 : MF M1 M2) : MF M M2 := ⟨h.1.tr h2.1, fun i hi => ⟨((h2.2 i hi).1).trans (h.2 i hi).1, ((h2.2 i hi).2).trans (h.2 i hi).2⟩⟩
theorem CP.n {e : Nat} {T : Nat → Nat} {n : Nat} {S : PS} {M : Nat → Nat → Int32} (hV : PV n S) (h : CP e T n S M) : CN e T n (Pb S) M := ⟨h.1, h.2.1.1, Pn S, by have := hV.2.2.2.2.2.1; have := hV.1; have := hV.2.1; have := hV.2.2.1; omega, h.2.2.1⟩
/-- what the reading of a part of a text is: right on both sides, or wrong at one place on both -/
def XCk (J : Nat → Nat → Int64) (R : Nat → Nat → Option Nat) (c e nL : Nat) (xs : Nat → Int32) (D : px_H) (T : Nat → Nat) (n kc cid o : Nat) (S S' : PS) : Prop := ∀ dc M, kc ≤ dc → CP e T n S M → ∃ M1, px_ex px_tab dc cid [.ref 37, .int (nI o)] (hp M J R c e nL xs D) = some (some (.int 1), hp M1 J R c e nL xs D) ∧ CP e T n S' M1 ∧ CF e M M1
def XCf (J : Nat → Nat → Int64) (R : Nat → Nat → Option Nat) (c e nL : Nat) (xs : Nat → Int32) (D : px_H) (T : Nat → Nat) (n kc cid o : Nat) (S : PS) (b : Nat) : Prop := ∀ dc M, kc ≤ dc → CP e T n S M → ∃ M1, px_ex px_tab dc cid [.ref 37, .int (nI o)] (hp M J R c e nL xs D) = some (some (.int 0), hp M1 J R c e nL xs D) ∧ CN e T n b M1 ∧ CF e M M1
def XMk (J : Nat → Nat → Int64) (R : Nat → Nat → Option Nat) (nL : Nat) (xs : Nat → Int32) (D : px_H) (T : Nat → Nat) (n km mid o : Nat) (S S' : PS) : Prop := ∀ c e dm M, km ≤ dm → MP T n S M → M 67 61 = -1 → M 67 62 = nI o → ∃ M1, px_ex px_tab dm mid [.ref 67] (hp M J R c e nL xs D) = some (none, hp M1 J R c e nL xs D) ∧ MP T n S' M1 ∧ MF M M1 ∧ M1 67 61 = -1 ∧ M1 67 62 = nI o
def XMf (J : Nat → Nat → Int64) (R : Nat → Nat → Option Nat) (nL : Nat) (xs : Nat → Int32) (D : px_H) (T : Nat → Nat) (n km mid o : Nat) (S : PS) (b : Nat) : Prop := ∀ c e dm M, km ≤ dm → MP T n S M → M 67 61 = -1 → M 67 62 = nI o → ∃ M1 N, px_ex px_tab dm mid [.ref 67] (hp M J R c e nL xs D) = some (none, hp M1 J R c e nL xs D) ∧ MN N M1 ∧ N + Pb S ≤ Pn S + n ∧ MF M M1 ∧ M1 67 61 = nI b ∧ M1 67 62 = nI o
def XP (J : Nat → Nat → Int64) (R : Nat → Nat → Option Nat) (c e nL : Nat) (xs : Nat → Int32) (D : px_H) (T : Nat → Nat) (n kc km cid mid o : Nat) : Prop := ∀ S, PV n S → (∃ S', PG n S S' ∧ XCk J R c e nL xs D T n kc cid o S S' ∧ XMk J R nL xs D T n km mid o S S') ∨ (∃ b, b ≤ n ∧ XCf J R c e nL xs D T n kc cid o S b ∧ XMf J R nL xs D T n km mid o S b)
/-- tokens by their numbers -/
theorem tk_i {t : Nat} (ht : t ≤ 61) (k : Nat) (hk : k ≤ 61) : mtk t = mtk k ↔ t = k := by
  have : ∀ t, t < 62 → ∀ k, k < 62 → (mtk t = mtk k ↔ t = k) := by decide +kernel
  exact this t (by omega) k (by omega)
theorem mtk_b {t : Nat} (ht : t ≤ 61) : mtk t < 400 := by
  unfold mtk
  split
  · omega
  · split
    · omega
    · split <;> omega
theorem tk_m {t : Nat} (ht : t ≤ 61) (k : Nat) (hk : k ≤ 61) : nI (mtk t) = nI (mtk k) ↔ t = k := by
  rw [nI_eq (by have := mtk_b ht; omega) (by have := mtk_b hk; omega)]
  exact tk_i ht k hk
theorem tk_c {t : Nat} (ht : t ≤ 61) (k : Nat) (hk : k ≤ 61) : nI t = nI k ↔ t = k := nI_eq (by omega) (by omega)
