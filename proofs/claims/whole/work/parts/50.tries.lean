/-! PART 50: PLANS: the model's search -/
def dgI (x : Nat) : Int32 := if x = 4 then -1 else nI x
def lsm (mn b : Nat → Nat) (h : Nat) : Nat → Nat
  | 0 => 0
  | k + 1 => lsm mn b h k + (if b k = h then mn k else 0)
def rsm (wo : Nat → Nat) : Nat → Nat → Nat
  | 0, _ => 0
  | k + 1, t => wo t + rsm wo k (t + 1)
theorem lsm_c {mn b b' : Nat → Nat} {h : Nat} : ∀ k, (∀ i, i < k → b i = b' i) → lsm mn b h k = lsm mn b' h k
  | 0, _ => rfl
  | k + 1, hc => by
    unfold lsm
    rw [lsm_c k (fun i hi => hc i (by omega)), hc k (by omega)]
theorem xd_c {b b' : Nat → Nat} : ∀ k, (∀ i, i < k → b i = b' i) → xd b k = xd b' k
  | 0, _ => rfl
  | k + 1, hc => by
    unfold xd
    rw [xd_c k (fun i hi => hc i (by omega)), hc k (by omega)]
theorem wsm_c {wo b b' : Nat → Nat} : ∀ k, (∀ i, i < k → b i = b' i) → wsm wo b k = wsm wo b' k
  | 0, _ => rfl
  | k + 1, hc => by
    unfold wsm
    rw [wsm_c k (fun i hi => hc i (by omega)), hc k (by omega)]
theorem lsm_m (mn b : Nat → Nat) (h t : Nat) : ∀ k, lsm mn b h t ≤ lsm mn b h (t + k)
  | 0 => Nat.le_refl _
  | k + 1 => by
    have := lsm_m mn b h t k
    show _ ≤ lsm mn b h (t + k) + (if b (t + k) = h then mn (t + k) else 0)
    omega
theorem wsm_r (wo a : Nat → Nat) : ∀ k t, wsm wo a (t + k) ≤ wsm wo a t + rsm wo k t
  | 0, t => Nat.le_refl _
  | k + 1, t => by
    have := wsm_r wo a k (t + 1)
    rw [show t + (k + 1) = t + 1 + k from by omega]
    have e : wsm wo a (t + 1) = wsm wo a t + (if a t = 4 then 0 else wo t) := rfl
    have e2 : rsm wo (k + 1) t = wo t + rsm wo k (t + 1) := rfl
    rw [e2]
    rw [e] at this
    split at this <;> omega
theorem xd_m (a : Nat → Nat) : ∀ k t, xd a t * 5 ^ k ≤ xd a (t + k)
  | 0, t => by rw [Nat.pow_zero, Nat.mul_one]; exact Nat.le_refl _
  | k + 1, t => by
    have ih := xd_m a k t
    rw [Nat.pow_succ, ← Nat.mul_assoc]
    show _ ≤ 5 * xd a (t + k) + a (t + k)
    omega
theorem rsm_le {wo : Nat → Nat} {n : Nat} (hw : ∀ t, t < n → wo t ≤ 999) : ∀ k t, t + k ≤ n → rsm wo k t ≤ 999 * k
  | 0, _, _ => Nat.le_refl _
  | k + 1, t, h => by
    have := rsm_le hw k (t + 1) (by omega)
    have := hw t (by omega)
    unfold rsm
    omega
theorem ldg_all {mn b : Nat → Nat} {n h : Nat} (hn : n ≤ 9) : ldg (fun t => (mn t : Int)) b h (2 ^ n - 1) = (lsm mn b h n : Int) := by
  have key : ∀ k, k ≤ 9 → bs (fun t => if b t = h then (mn t : Int) else 0) (2 ^ n - 1) k = (lsm mn b h (min k n) : Int) := by
    intro k
    induction k with
    | zero => intro _; rw [show min 0 n = 0 from by omega]; rfl
    | succ k ih =>
      intro hk
      rw [bs_s, ih (by omega), all_bit]
      by_cases h1 : k < n
      · rw [decide_eq_true h1, show min k n = k from by omega, show min (k + 1) n = k + 1 from by omega, if_pos rfl]
        show _ = ((lsm mn b h k + (if b k = h then mn k else 0) : Nat) : Int)
        split <;> omega
      · rw [decide_eq_false h1, show min k n = n from by omega, show min (k + 1) n = n from by omega]
        all_goals simp
  have := key 9 (by omega)
  rw [show min 9 n = n from by omega] at this
  exact this
theorem fea_all {mn cap b : Nat → Nat} {n ng : Nat} (hn : n ≤ 9) : fea (fun t => (mn t : Int)) (fun t => (cap t : Int)) ng 0 (2 ^ n - 1) b ↔ (∀ t, t < n → b t < ng ∨ b t = 4) ∧ ∀ h, h < ng → lsm mn b h n ≤ cap h := by
  constructor
  · rintro ⟨h1, h2⟩
    refine ⟨fun t ht => ?_, fun h hh => ?_⟩
    · rcases h1 t (by omega) (by rw [all_bit, decide_eq_true ht]) with q | q
      · exact Or.inl q.2
      · exact Or.inr q
    · have := h2 h (Nat.zero_le _) hh
      rw [ldg_all hn] at this
      dsimp only at this
      omega
  · rintro ⟨h1, h2⟩
    refine ⟨fun t ht hb => ?_, fun h _ hh => ?_⟩
    · rw [all_bit] at hb
      rcases h1 t (of_decide_eq_true hb) with q | q
      · exact Or.inl ⟨Nat.zero_le _, q⟩
      · exact Or.inr q
    · rw [ldg_all hn]
      have := h2 h hh
      dsimp only
      omega
/-- the best plan so far: its merit, its order -/
def Bst (M : Nat → Nat → Int32) (n ng : Nat) (mn wo cap : Nat → Nat) (v : Int) (ob : Nat) : Prop := (M 67 65 = -1 ∧ v = -1953125 ∧ ob = 0) ∨ ∃ bb : Nat → Nat, (∀ i, i < n → bb i ≤ 4 ∧ M 109 i = dgI (bb i)) ∧ M 67 65 = nI (wsm wo bb n) ∧ ob = xd bb n * 5 ^ (9 - n) ∧ v = (wsm wo bb n : Int) * 1953125 - (ob : Int) ∧ fea (fun t => (mn t : Int)) (fun t => (cap t : Int)) ng 0 (2 ^ n - 1) bb
def Stt (M : Nat → Nat → Int32) (n ng : Nat) (mn wo : Nat → Nat) : Prop := M 67 42 = nI n ∧ M 67 45 = nI ng ∧ ∀ t, t < n → M 99 t = nI (mn t) ∧ M 100 t = nI (wo t)
theorem Stt.fr {M M' : Nat → Nat → Int32} {n ng : Nat} {mn wo : Nat → Nat} (hf : frm [108, 109, 110] [65] M M') (h : Stt M n ng mn wo) : Stt M' n ng mn wo := by
  unfold Stt
  rw [hf.2 42 (by decide), hf.2 45 (by decide), hf.1 99 (by decide) (by decide), hf.1 100 (by decide) (by decide)]
  exact h
theorem Bst.fr {M M' : Nat → Nat → Int32} {n ng : Nat} {mn wo cap : Nat → Nat} {v : Int} {ob : Nat} (h65 : M' 67 65 = M 67 65) (h109 : M' 109 = M 109) (h : Bst M n ng mn wo cap v ob) : Bst M' n ng mn wo cap v ob := by
  unfold Bst
  rw [h65, h109]
  exact h
section S50
variable (d : Nat) (J : Nat → Nat → Int64) (R : Nat → Nat → Option Nat) (c e nL : Nat) (xs : Nat → Int32) (D : px_H)
theorem m_copy_l {n ng : Nat} {mn wo : Nat → Nat} (hn : n ≤ 9) : ∀ (g k : Nat) (M : Nat → Nat → Int32) (o1 o2 o3 : Option Value), M 67 42 = nI n → k + g = n → ∃ r, px_run (px_mk (kX12_tries (px_ex px_tab d))) 27 ([some (.ref 67), o1, o2, o3, some (.int (nI k))], [], (hp M J R c e nL xs D)) = some (none, (hp (px_uR M 109 r) (J) (R) (c) (e) nL xs (D))) ∧ (∀ i, k ≤ i → i < n → r i = M 108 i) ∧ ∀ i, i < k → r i = M 109 i
  | 0, k, M, o1, o2, o3, h, hk => by
    refine ⟨M 109, ?_, fun i h1 h2 => by omega, fun _ _ => rfl⟩
    rw [eX12_tries_27, h, px_uR_id]
    simp (disch := omega) only [px_bd_s, px_psh_s, px_psh_n, px_vb_s, px_ib_s, px_wb_s, px_bo_s, px_bo_n, Bool.cond_decide, cond_true, cond_false, ite_not, Bool.and_true, if_true, if_false, not_true_eq_false, not_false_eq_true, i10, eq_self, decide_true, decide_false, Bool.or_true, Bool.true_or, Bool.or_false, Bool.false_or, nI_leI, if_pos, eX12_tries_56]
  | g + 1, k, M, o1, o2, o3, h, hk => by
    obtain ⟨r, r1, r2, r3⟩ := m_copy_l (ng := ng) (mn := mn) (wo := wo) hn g (k + 1) (px_uR M 109 (upd (M 109) k (M 108 k))) none none none h (by omega)
    refine ⟨r, ?_, fun i h1 h2 => ?_, fun i hi => ?_⟩
    · rw [px_uR_2] at r1
      rw [← r1, eX12_tries_27, h]
      simp (disch := omega) only [px_bd_s, px_psh_s, px_psh_n, px_vb_s, px_ib_s, px_wb_s, px_bo_s, px_bo_n, Bool.cond_decide, cond_true, cond_false, ite_not, Bool.and_true, if_true, if_false, not_true_eq_false, not_false_eq_true, i10, eq_self, decide_true, decide_false, Bool.or_true, Bool.true_or, Bool.or_false, Bool.false_or, nI_leI, if_neg, px_inbT, nI_clamp, nI_1]
    · rcases Nat.lt_or_ge k i with q | q
      · exact r2 i q h2
      · rw [show i = k from by omega, r3 k (by omega)]
        exact pk_us
    · rw [r3 i (by omega)]
      exact pk_un (by omega)
theorem m_tries {n ng : Nat} {mn wo cap : Nat → Nat} (hn : n ≤ 9) (hng : ng ≤ 4) (hw : ∀ t, t < n → wo t ≤ 999) (hmn : ∀ t, t < n → mn t ≤ 200) (hcap : ∀ g, g < ng → cap g ≤ 400) : ∀ (k t : Nat) (b : Nat → Nat) (M : Nat → Nat → Int32) (v : Int) (ob : Nat), t + k = n → Stt M n ng mn wo → (∀ i, i < t → b i < ng ∨ b i = 4) → (∀ i, i < t → M 108 i = dgI (b i)) → (∀ g, g < ng → ∃ l, M 110 g = nI l ∧ l + lsm mn b g t = cap g) → Bst M n ng mn wo cap v ob → (v = -1953125 ∨ ob < xd b t * 5 ^ (9 - t)) → ∃ M' v' ob', px_ex px_tab (d + k + 1) 240 [Value.ref (67), Value.int (nI t), Value.int (nI (wsm wo b t)), Value.int (nI (rsm wo k t))] (hp (M) (J) (R) (c) (e) nL xs (D)) = some (none, (hp (M') (J) (R) (c) (e) nL xs (D))) ∧ frm [108, 109, 110] [65] M M' ∧ (∀ i, i < t → M' 108 i = M 108 i) ∧ (∀ g, g < ng → M' 110 g = M 110 g) ∧ Bst M' n ng mn wo cap v' ob' ∧ v ≤ v' ∧ (v' = -1953125 ∨ ob' < xd b t * 5 ^ (9 - t) + 5 ^ (9 - t)) ∧ ∀ a, (∀ i, i < t → a i = b i) → fea (fun t => (mn t : Int)) (fun t => (cap t : Int)) ng 0 (2 ^ n - 1) a → mer (fun t => (wo t : Int)) a (2 ^ n - 1) ≤ v' := by
  intro k
  induction k with
  | zero =>
    intro t b M v ob ht hS hb hgv hlf hB hob
    have htn : t = n := by omega
    subst htn
    have hb4 : ∀ i, i < t → b i ≤ 4 := fun i hi => by rcases hb i hi with q | q <;> omega
    have hOP := ord_lt hn hb4
    have hWb := wsm_le wo b t hw t (Nat.le_refl _)
    have hmb := mer_all (wo := wo) hn hb4
    by_cases hpr : M 67 65 < nI (wsm wo b t) + nI (rsm wo 0 t)
    · obtain ⟨r, r1, r2, r3⟩ := m_copy_l d J R c e nL xs D (ng := ng) (mn := mn) (wo := wo) hn t 0 (px_uR M 67 (upd (M 67) 65 (nI (wsm wo b t)))) (some (.int (nI t))) (some (.int (nI (wsm wo b t)))) (some (.int (nI (rsm wo 0 t)))) hS.1 (by omega)
      have hfb : fea (fun t => (mn t : Int)) (fun t => (cap t : Int)) ng 0 (2 ^ t - 1) b := (fea_all hn).mpr ⟨hb, fun h hh => by
        obtain ⟨l, _, hl⟩ := hlf h hh
        omega⟩
      have hlt : M 67 65 < nI (wsm wo b t) := by
        rw [show rsm wo 0 t = 0 from rfl, nI_0, Int32.add_zero] at hpr
        exact hpr
      refine ⟨px_uR (px_uR M 67 (upd (M 67) 65 (nI (wsm wo b t)))) 109 r, (wsm wo b t : Int) * 1953125 - ((xd b t * 5 ^ (9 - t) : Nat) : Int), xd b t * 5 ^ (9 - t), ?_, ?_, fun _ _ => rfl, fun _ _ => rfl, ?_, ?_, ?_, ?_⟩
      · rw [xX12_tries, eX12_tries_0]
        simp only [px_bd_s, px_psh_s, px_psh_n, px_vb_s, px_ib_s, px_wb_s, px_bo_s, px_bo_n, Bool.cond_decide, cond_true, cond_false, ite_not, Bool.and_true, if_true, if_false, not_true_eq_false, not_false_eq_true, i10, eq_self, decide_true, decide_false, Bool.or_true, Bool.true_or, Bool.or_false, Bool.false_or, if_pos hpr, eX12_tries_11, hS.1]
        rw [nI_0] at r1
        exact r1
      · exact ((frm.rf _ _ _).k 65 _ (by decide)).u 109 _ (by decide) (by decide)
      · refine Or.inr ⟨b, fun i hi => ⟨hb4 i hi, ?_⟩, rfl, rfl, rfl, hfb⟩
        show r i = _
        rw [r2 i (Nat.zero_le _) hi]
        exact hgv i hi
      · rcases hB with ⟨_, q, _⟩ | ⟨bb, z1, z2, z3, z4, z5⟩
        · omega
        · rw [z2, nI_ltI (by have := wsm_le wo bb t hw t (Nat.le_refl _); omega) (by omega)] at hlt
          omega
      · right
        have : 0 < 5 ^ (9 - t) := Nat.pow_pos (by decide)
        omega
      · intro a ha _
        have : mer (fun t => (wo t : Int)) a (2 ^ t - 1) = mer (fun t => (wo t : Int)) b (2 ^ t - 1) := by
          rw [mer_all (wo := wo) hn (fun i hi => by rw [ha i hi]; exact hb4 i hi), hmb, wsm_c t ha, xd_c t ha]
        rw [this, hmb]
        exact Int.le_refl _
    · refine ⟨M, v, ob, ?_, frm.rf _ _ _, fun _ _ => rfl, fun _ _ => rfl, hB, Int.le_refl _, ?_, ?_⟩
      · rw [xX12_tries, eX12_tries_0]
        simp only [px_bd_s, px_psh_s, px_psh_n, px_vb_s, px_ib_s, px_wb_s, px_bo_s, px_bo_n, Bool.cond_decide, cond_true, cond_false, ite_not, Bool.and_true, if_true, if_false, not_true_eq_false, not_false_eq_true, i10, eq_self, decide_true, decide_false, Bool.or_true, Bool.true_or, Bool.or_false, Bool.false_or, if_neg hpr]
      · rcases hob with q | q
        · exact Or.inl q
        · exact Or.inr (Nat.lt_of_lt_of_le q (Nat.le_add_right _ _))
      · intro a ha _
        rw [show rsm wo 0 t = 0 from rfl, nI_0, Int32.add_zero] at hpr
        rcases hB with ⟨q, _, _⟩ | ⟨bb, z1, z2, z3, z4, z5⟩
        · rw [q] at hpr
          exact absurd (by
            rw [Int32.lt_iff_toInt_lt, nI_toInt (by omega), show (-1 : Int32).toInt = -1 from rfl]
            omega) hpr
        · have hob2 : ob < xd b t * 5 ^ (9 - t) := by
            rcases hob with q | q
            · have := ord_lt hn (fun i hi => (z1 i hi).1)
              rw [← z3] at this
              omega
            · exact q
          rw [z2, nI_ltI (by have := wsm_le wo bb t hw t (Nat.le_refl _); omega) (by omega)] at hpr
          rw [mer_all (wo := wo) hn (fun i hi => by rw [ha i hi]; exact hb4 i hi), wsm_c t ha, xd_c t ha]
          omega
  | succ k ih =>
    intro t b M v ob ht hS hb hgv hlf hB hob
    have hb4 : ∀ i, i < t → b i ≤ 4 := fun i hi => by rcases hb i hi with q | q <;> omega
    have htn : t < n := by omega
    have hWb := wsm_le wo b n hw t (by omega)
    have hrs := rsm_le hw (k + 1) t (by omega)
    have e9 : 5 ^ (9 - t) = 5 * 5 ^ (8 - t) := by
      rw [show 9 - t = 8 - t + 1 from by omega, Nat.pow_succ, Nat.mul_comm]
    have hp8 : 0 < 5 ^ (8 - t) := Nat.pow_pos (by decide)
    have hrk : rsm wo (k + 1) t = wo t + rsm wo k (t + 1) := rfl
    obtain ⟨s99, s100⟩ := hS.2.2 t htn
    by_cases hpr : M 67 65 < nI (wsm wo b t) + nI (rsm wo (k + 1) t)
    · -- the subcall with digit g
      have sub : ∀ (g : Nat) (M : Nat → Nat → Int32) (v : Int) (ob : Nat), (g < ng ∨ g = 4) → Stt M n ng mn wo → (∀ i, i < t → M 108 i = dgI (b i)) → M 108 t = dgI g → (∀ h, h < ng → ∃ l, M 110 h = nI l ∧ l + lsm mn (fun i => if i = t then g else b i) h (t + 1) = cap h) → Bst M n ng mn wo cap v ob → (v = -1953125 ∨ ob < xd b t * 5 ^ (9 - t) + g * 5 ^ (8 - t)) → ∃ M' v' ob', px_ex px_tab (d + k + 1) 240 [Value.ref (67), Value.int (nI (t + 1)), Value.int (nI (wsm wo b t + (if g = 4 then 0 else wo t))), Value.int (nI (rsm wo k (t + 1)))] (hp (M) (J) (R) (c) (e) nL xs (D)) = some (none, (hp (M') (J) (R) (c) (e) nL xs (D))) ∧ frm [108, 109, 110] [65] M M' ∧ (∀ i, i < t → M' 108 i = M 108 i) ∧ (∀ g, g < ng → M' 110 g = M 110 g) ∧ Bst M' n ng mn wo cap v' ob' ∧ v ≤ v' ∧ (v' = -1953125 ∨ ob' < xd b t * 5 ^ (9 - t) + (g + 1) * 5 ^ (8 - t)) ∧ ∀ a, (∀ i, i < t → a i = b i) → a t = g → fea (fun t => (mn t : Int)) (fun t => (cap t : Int)) ng 0 (2 ^ n - 1) a → mer (fun t => (wo t : Int)) a (2 ^ n - 1) ≤ v' := by
        intro g M v ob hg hS hgv hgt hlf hB hob
        have hbb : ∀ i, i < t → (fun i => if i = t then g else b i) i = b i := fun i hi => by
          show (if i = t then g else b i) = b i
          rw [if_neg (by omega)]
        have hbt : (fun i => if i = t then g else b i) t = g := by
          show (if t = t then g else b t) = g
          rw [if_pos rfl]
        have ex : xd (fun i => if i = t then g else b i) (t + 1) * 5 ^ (9 - (t + 1)) = xd b t * 5 ^ (9 - t) + g * 5 ^ (8 - t) := by
          show (5 * xd (fun i => if i = t then g else b i) t + (fun i => if i = t then g else b i) t) * 5 ^ (9 - (t + 1)) = _
          rw [hbt, xd_c t hbb, e9, show 9 - (t + 1) = 8 - t from by omega, Nat.add_mul, Nat.mul_comm 5 (xd b t), Nat.mul_assoc]
        have ew : wsm wo (fun i => if i = t then g else b i) (t + 1) = wsm wo b t + (if g = 4 then 0 else wo t) := by
          show wsm wo (fun i => if i = t then g else b i) t + (if (fun i => if i = t then g else b i) t = 4 then 0 else wo t) = _
          rw [hbt, wsm_c t hbb]
        obtain ⟨M', v', ob', q1, q2, q3, q4, q5, q6, q7, q8⟩ := ih (t + 1) (fun i => if i = t then g else b i) M v ob (by omega) hS (fun i hi => by
          by_cases hit : i = t
          · rw [if_pos hit]; exact hg
          · rw [if_neg hit]; exact hb i (by omega)) (fun i hi => by
          by_cases hit : i = t
          · rw [hit, if_pos rfl]; exact hgt
          · rw [if_neg hit]; exact hgv i (by omega)) hlf hB (by rw [ex]; exact hob)
        rw [ew] at q1
        refine ⟨M', v', ob', q1, q2, fun i hi => q3 i (by omega), q4, q5, q6, ?_, fun a ha hat hfa => q8 a (fun i hi => ?_) hfa⟩
        · rw [ex, show 9 - (t + 1) = 8 - t from by omega] at q7
          rcases q7 with z | z
          · exact Or.inl z
          · refine Or.inr ?_
            rw [Nat.add_mul, Nat.one_mul, ← Nat.add_assoc]
            exact z
        · by_cases hit : i = t
          · rw [hit, if_pos rfl]; exact hat
          · rw [if_neg hit]; exact ha i (by omega)
      -- the gangs one after the other
      have loop : ∀ (j g : Nat) (M : Nat → Nat → Int32) (v : Int) (ob : Nat), g + j = ng → Stt M n ng mn wo → (∀ i, i < t → M 108 i = dgI (b i)) → (∀ h, h < ng → ∃ l, M 110 h = nI l ∧ l + lsm mn b h t = cap h) → Bst M n ng mn wo cap v ob → (v = -1953125 ∨ ob < xd b t * 5 ^ (9 - t) + g * 5 ^ (8 - t)) → ∃ M' v' ob', px_run (px_mk (kX12_tries (px_ex px_tab (d + k + 1)))) 60 ([some (.ref 67), some (.int (nI t)), some (.int (nI (wsm wo b t))), some (.int (nI (rsm wo (k + 1) t))), some (.int (nI g))], [], (hp M J R c e nL xs D)) = px_run (px_mk (kX12_tries (px_ex px_tab (d + k + 1)))) 154 ([some (.ref 67), some (.int (nI t)), some (.int (nI (wsm wo b t))), some (.int (nI (rsm wo (k + 1) t))), some (.int (nI ng))], [], hp M' J R c e nL xs D) ∧ frm [108, 109, 110] [65] M M' ∧ (∀ i, i < t → M' 108 i = M 108 i) ∧ (∀ g, g < ng → M' 110 g = M 110 g) ∧ Bst M' n ng mn wo cap v' ob' ∧ v ≤ v' ∧ (v' = -1953125 ∨ ob' < xd b t * 5 ^ (9 - t) + ng * 5 ^ (8 - t)) ∧ ∀ a, (∀ i, i < t → a i = b i) → g ≤ a t → a t < ng → fea (fun t => (mn t : Int)) (fun t => (cap t : Int)) ng 0 (2 ^ n - 1) a → mer (fun t => (wo t : Int)) a (2 ^ n - 1) ≤ v' := by
        intro j
        induction j with
        | zero =>
          intro g M v ob hgj hS hgv hlf hB hob
          have : g = ng := by omega
          subst this
          refine ⟨M, v, ob, ?_, frm.rf _ _ _, fun _ _ => rfl, fun _ _ => rfl, hB, Int.le_refl _, hob, fun a _ h1 h2 => by omega⟩
          rw [eX12_tries_60, hS.2.1]
          simp (disch := omega) only [px_bd_s, px_psh_s, px_psh_n, px_vb_s, px_ib_s, px_wb_s, px_bo_s, px_bo_n, Bool.cond_decide, cond_true, cond_false, ite_not, Bool.and_true, if_true, if_false, not_true_eq_false, not_false_eq_true, i10, eq_self, decide_true, decide_false, Bool.or_true, Bool.true_or, Bool.or_false, Bool.false_or, nI_leI, if_pos]
        | succ j ihj =>
          intro g M v ob hgj hS hgv hlf hB hob
          obtain ⟨s99, s100⟩ := hS.2.2 t htn
          have hmt := hmn t htn
          have hwt := hw t htn
          obtain ⟨l, hl1, hl2⟩ := hlf g (by omega)
          have hcg := hcap g (by omega)
          by_cases hfit : l < mn t
          · obtain ⟨M', v', ob', q1, q2, q3, q4, q5, q6, q7, q8⟩ := ihj (g + 1) M v ob (by omega) hS hgv hlf hB (by
              rcases hob with z | z
              · exact Or.inl z
              · refine Or.inr ?_
                rw [Nat.add_mul, Nat.one_mul]
                omega)
            refine ⟨M', v', ob', ?_, q2, q3, q4, q5, q6, q7, fun a ha h1 h2 hfa => ?_⟩
            · rw [← q1, eX12_tries_60, hS.2.1]
              simp (disch := omega) only [px_bd_s, px_psh_s, px_psh_n, px_vb_s, px_ib_s, px_wb_s, px_bo_s, px_bo_n, Bool.cond_decide, cond_true, cond_false, ite_not, Bool.and_true, if_true, if_false, not_true_eq_false, not_false_eq_true, i10, eq_self, decide_true, decide_false, Bool.or_true, Bool.true_or, Bool.or_false, Bool.false_or, nI_leI, if_neg, px_inbT, nI_clamp, hl1, s99, nI_ltI, if_pos hfit, eX12_tries_148, nI_1]
            · rcases Nat.lt_or_ge g (a t) with z | z
              · exact q8 a ha z h2 hfa
              · have hag : a t = g := by omega
                have := ((fea_all hn).mp hfa).2 g (by omega)
                have h3 := lsm_m mn a g (t + 1) k
                rw [show t + 1 + k = n from by omega] at h3
                have h4 : lsm mn a g (t + 1) = lsm mn a g t + (if a t = g then mn t else 0) := rfl
                rw [if_pos hag, lsm_c t ha] at h4
                omega
          · -- it fits
            obtain ⟨M1, v1, ob1, q1, q2, q3, q4, q5, q6, q7, q8⟩ := sub g (px_uR (px_uR M 110 (upd (M 110) g (nI (l - mn t)))) 108 (upd (M 108) t (nI g))) v ob (Or.inl (by omega)) hS (fun i hi => by
              show upd (M 108) t (nI g) i = _
              rw [pk_un (by omega)]
              exact hgv i hi) (by
              show upd (M 108) t (nI g) t = _
              rw [pk_us]
              unfold dgI
              rw [if_neg (by omega)]) (fun h hh => by
              have e1 : lsm mn (fun i => if i = t then g else b i) h (t + 1) = lsm mn b h t + (if g = h then mn t else 0) := by
                show lsm mn (fun i => if i = t then g else b i) h t + (if (if t = t then g else b t) = h then mn t else 0) = _
                rw [if_pos rfl, lsm_c t (b' := b) (fun i hi => by rw [if_neg (by omega)])]
              by_cases hgh : h = g
              · subst hgh
                refine ⟨l - mn t, pk_us, ?_⟩
                rw [e1, if_pos rfl]
                omega
              · obtain ⟨l', a1, a2⟩ := hlf h hh
                refine ⟨l', (pk_un hgh).trans a1, ?_⟩
                rw [e1, if_neg (by omega)]
                omega) (Bst.fr rfl rfl hB) hob
            rw [if_neg (show ¬ g = 4 by omega)] at q1
            have hfr1 : frm [108, 109, 110] [65] M M1 := (((frm.rf _ _ _).u 110 _ (by decide) (by decide)).u 108 _ (by decide) (by decide)).tr q2
            have hS1 : Stt M1 n ng mn wo := hS.fr hfr1
            have h110 : M1 110 g = nI (l - mn t) := by
              rw [q4 g (by omega)]
              exact pk_us
            obtain ⟨M', v', ob', p1, p2, p3, p4, p5, p6, p7, p8⟩ := ihj (g + 1) (px_uR M1 110 (upd (M1 110) g (nI l))) v1 ob1 (by omega) hS1 (fun i hi => by
              show M1 108 i = _
              rw [q3 i hi]
              show upd (M 108) t (nI g) i = _
              rw [pk_un (by omega)]
              exact hgv i hi) (fun h hh => by
              show ∃ l', upd (M1 110) g (nI l) h = nI l' ∧ _
              by_cases hgh : h = g
              · subst hgh
                exact ⟨l, pk_us, hl2⟩
              · obtain ⟨l', a1, a2⟩ := hlf h hh
                refine ⟨l', ?_, a2⟩
                rw [pk_un hgh, q4 h hh]
                show upd (M 110) g (nI (l - mn t)) h = _
                rw [pk_un hgh]
                exact a1) (Bst.fr rfl rfl q5) q7
            refine ⟨M', v', ob', ?_, (hfr1.u 110 _ (by decide) (by decide)).tr p2, fun i hi => ?_, fun h hh => ?_, p5, by omega, p7, fun a ha h1 h2 hfa => ?_⟩
            · have e1 : nI l - nI (mn t) = nI (l - mn t) := pk_sub (by omega)
              have e2 : nI (wo t + rsm wo k (t + 1)) - nI (wo t) = nI (rsm wo k (t + 1)) := by
                rw [pk_sub (by omega)]
                congr 1
                omega
              have e3 : nI (l - mn t) + nI (mn t) = nI l := by
                rw [nI_add]
                congr 1
                omega
              have s99' : M1 99 t = nI (mn t) := (hS1.2.2 t htn).1
              rw [← p1, eX12_tries_60, hS.2.1]
              simp (disch := omega) only [px_bd_s, px_psh_s, px_psh_n, px_vb_s, px_ib_s, px_wb_s, px_bo_s, px_bo_n, Bool.cond_decide, cond_true, cond_false, ite_not, Bool.and_true, if_true, if_false, not_true_eq_false, not_false_eq_true, i10, eq_self, decide_true, decide_false, Bool.or_true, Bool.true_or, Bool.or_false, Bool.false_or, nI_leI, if_neg, px_inbT, nI_clamp, hl1, s99, s100, nI_ltI, hfit, nI_1, nI_add, e1, hrk, e2, q1, eX12_tries_60_46, h110, s99', e3, eX12_tries_148]
            · rw [p3 i hi]
              show M1 108 i = _
              rw [q3 i hi]
              exact pk_un (by omega)
            · rw [p4 h hh]
              show upd (M1 110) g (nI l) h = _
              by_cases hgh : h = g
              · rw [hgh, pk_us, hl1]
              · rw [pk_un hgh, q4 h hh]
                exact pk_un hgh
            · rcases Nat.lt_or_ge g (a t) with z | z
              · exact p8 a ha z h2 hfa
              · have := q8 a ha (by omega) hfa
                omega
      obtain ⟨M1, v1, ob1, q1, q2, q3, q4, q5, q6, q7, q8⟩ := loop ng 0 M v ob (by omega) hS hgv hlf hB (by rw [Nat.zero_mul]; exact hob)
      have hS1 : Stt M1 n ng mn wo := hS.fr q2
      obtain ⟨M2, v2, ob2, p1, p2, p3, p4, p5, p6, p7, p8⟩ := sub 4 (px_uR M1 108 (upd (M1 108) t (-1))) v1 ob1 (Or.inr rfl) hS1 (fun i hi => by
        show upd (M1 108) t (-1) i = _
        rw [pk_un (by omega), q3 i hi]
        exact hgv i hi) (by
        show upd (M1 108) t (-1) t = _
        rw [pk_us]
        rfl) (fun h hh => by
        have e1 : lsm mn (fun i => if i = t then 4 else b i) h (t + 1) = lsm mn b h t := by
          show lsm mn (fun i => if i = t then 4 else b i) h t + (if (if t = t then 4 else b t) = h then mn t else 0) = _
          rw [if_pos rfl, lsm_c t (b' := b) (fun i hi => by rw [if_neg (by omega)]), if_neg (by omega), Nat.add_zero]
        obtain ⟨l', a1, a2⟩ := hlf h hh
        exact ⟨l', (q4 h hh).trans a1, by rw [e1]; exact a2⟩) (Bst.fr rfl rfl q5) (by
        rcases q7 with z | z
        · exact Or.inl z
        · refine Or.inr (Nat.lt_of_lt_of_le z ?_)
          exact Nat.add_le_add_left (Nat.mul_le_mul_right _ hng) _)
      rw [if_pos rfl, show wsm wo b t + 0 = wsm wo b t from rfl] at p1
      refine ⟨M2, v2, ob2, ?_, (q2.u 108 _ (by decide) (by decide)).tr p2, fun i hi => ?_, fun h hh => ?_, p5, by omega, ?_, fun a ha hfa => ?_⟩
      · have e2 : nI (wo t + rsm wo k (t + 1)) - nI (wo t) = nI (rsm wo k (t + 1)) := by
          rw [pk_sub (by omega)]
          congr 1
          omega
        have s100' : M1 100 t = nI (wo t) := (hS1.2.2 t htn).2
        have hne : ¬ nI t = nI n := by
          rw [nI_eq (by omega) (by omega)]
          omega
        rw [nI_0] at q1
        rw [xX12_tries, eX12_tries_0]
        simp only [px_bd_s, px_psh_s, px_psh_n, px_vb_s, px_ib_s, px_wb_s, px_bo_s, px_bo_n, Bool.cond_decide, cond_true, cond_false, ite_not, Bool.and_true, if_true, if_false, not_true_eq_false, not_false_eq_true, i10, eq_self, decide_true, decide_false, Bool.or_true, Bool.true_or, Bool.or_false, Bool.false_or, if_pos hpr, eX12_tries_11, hS.1, hne, eX12_tries_57]
        rw [show d + (k + 1) = d + k + 1 from rfl, q1, eX12_tries_154]
        simp (disch := omega) only [px_bd_s, px_psh_s, px_psh_n, px_vb_s, px_ib_s, px_wb_s, px_bo_s, px_bo_n, Bool.cond_decide, cond_true, cond_false, ite_not, Bool.and_true, if_true, if_false, not_true_eq_false, not_false_eq_true, i10, eq_self, decide_true, decide_false, Bool.or_true, Bool.true_or, Bool.or_false, Bool.false_or, px_inbT, nI_clamp, nI_1, s100', hrk, e2, p1, eX12_tries_154_17]
      · rw [p3 i hi]
        show upd (M1 108) t (-1) i = _
        rw [pk_un (by omega)]
        exact q3 i hi
      · rw [p4 h hh]
        exact q4 h hh
      · rcases p7 with z | z
        · exact Or.inl z
        · refine Or.inr ?_
          rw [e9] at z ⊢
          omega
      · have hat := ((fea_all hn).mp hfa).1 t htn
        rcases hat with z | z
        · have := q8 a ha (Nat.zero_le _) z hfa
          omega
        · exact p8 a ha z hfa
    · refine ⟨M, v, ob, ?_, frm.rf _ _ _, fun _ _ => rfl, fun _ _ => rfl, hB, Int.le_refl _, ?_, ?_⟩
      · rw [xX12_tries, eX12_tries_0]
        simp only [px_bd_s, px_psh_s, px_psh_n, px_vb_s, px_ib_s, px_wb_s, px_bo_s, px_bo_n, Bool.cond_decide, cond_true, cond_false, ite_not, Bool.and_true, if_true, if_false, not_true_eq_false, not_false_eq_true, i10, eq_self, decide_true, decide_false, Bool.or_true, Bool.true_or, Bool.or_false, Bool.false_or, if_neg hpr]
      · rcases hob with q | q
        · exact Or.inl q
        · exact Or.inr (by omega)
      · intro a ha hfa
        have ha4 : ∀ i, i < n → a i ≤ 4 := fun i hi => by rcases ((fea_all hn).mp hfa).1 i hi with q | q <;> omega
        have h1 := wsm_r wo a (k + 1) t
        rw [show t + (k + 1) = n from by omega, wsm_c t ha] at h1
        have h2 := xd_m a (k + 1) t
        rw [show t + (k + 1) = n from by omega, xd_c t ha] at h2
        have h3 : xd b t * 5 ^ (9 - t) ≤ xd a n * 5 ^ (9 - n) := by
          have := Nat.mul_le_mul_right (5 ^ (9 - n)) h2
          rw [Nat.mul_assoc, ← Nat.pow_add, show k + 1 + (9 - n) = 9 - t from by omega] at this
          exact this
        rw [nI_add] at hpr
        rcases hB with ⟨q, _, _⟩ | ⟨bb, z1, z2, z3, z4, z5⟩
        · rw [q] at hpr
          exact absurd (by
            rw [Int32.lt_iff_toInt_lt, nI_toInt (by omega), show (-1 : Int32).toInt = -1 from rfl]
            omega) hpr
        · have hob2 : ob < xd b t * 5 ^ (9 - t) := by
            rcases hob with q | q
            · have := ord_lt hn (fun i hi => (z1 i hi).1)
              rw [← z3] at this
              omega
            · exact q
          have hwb := wsm_le wo bb n hw n (Nat.le_refl _)
          rw [z2, nI_ltI (by omega) (by omega)] at hpr
          rw [mer_all (wo := wo) hn ha4]
          omega
end S50
