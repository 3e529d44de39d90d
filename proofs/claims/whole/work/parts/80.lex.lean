/-! PART 80: TOKENS: what the next one is -/
def scn (f : Nat → Bool) : Nat → Nat → Nat
  | 0, a => a
  | g + 1, a => if f a = true then scn f g (a + 1) else a
theorem scn_s (f : Nat → Bool) (g a : Nat) : scn f (g + 1) a = if f a = true then scn f g (a + 1) else a := rfl
theorem scn_b (f : Nat → Bool) : ∀ g a, a ≤ scn f g a ∧ scn f g a ≤ a + g
  | 0, a => ⟨Nat.le_refl _, Nat.le_refl _⟩
  | g + 1, a => by
    rw [scn_s]
    split
    · have := scn_b f g (a + 1)
      omega
    · omega
def isB (T : Nat → Nat) (i : Nat) : Bool := decide (T i = 32 ∨ T i = 10)
def isL (T : Nat → Nat) (i : Nat) : Bool := decide (97 ≤ T i ∧ T i ≤ 122)
def isD (T : Nat → Nat) (i : Nat) : Bool := decide (48 ≤ T i ∧ T i ≤ 57)
def isS (v : Nat) : Prop := v = 40 ∨ v = 41 ∨ v = 42 ∨ v = 43 ∨ v = 45 ∨ v = 59 ∨ v = 60 ∨ v = 61
def wl (i : Nat) : Nat := ([4, 4, 5, 1, 1, 3, 3, 2, 3, 3] : List Nat).getD i 0
def wc (i j : Nat) : Nat := (([[107, 105, 110, 100], [115, 105, 122, 101], [108, 97, 121, 101, 114], [120], [121], [100, 97, 121], [98, 97, 114], [111, 114], [97, 110, 100], [110, 111, 116]] : List (List Nat)).getD i []).getD j 0
def eqr (T : Nat → Nat) (ch : Nat → Nat) (b : Nat) : Nat → Nat → Bool
  | 0, _ => true
  | g + 1, j => decide (T (b + j) = ch j) && eqr T ch b g (j + 1)
theorem eqr_s (T ch : Nat → Nat) (b g j : Nat) : eqr T ch b (g + 1) j = (decide (T (b + j) = ch j) && eqr T ch b g (j + 1)) := rfl
def mtch (T : Nat → Nat) (b l i : Nat) : Bool := decide (wl i = l) && eqr T (wc i) b (wl i) 0
/-- the word's token and name, of the first i words -/
def wtk (T : Nat → Nat) (b l : Nat) : Nat → Nat × Nat
  | 0 => (1, 0)
  | i + 1 => if mtch T b l i = true then (if i < 6 then 3 else 4 + i, i) else wtk T b l i
theorem wtk_s (T : Nat → Nat) (b l i : Nat) : wtk T b l (i + 1) = if mtch T b l i = true then (if i < 6 then 3 else 4 + i, i) else wtk T b l i := rfl
theorem wtk_b (T : Nat → Nat) (b l : Nat) : ∀ i, i ≤ 10 → (wtk T b l i).1 = 1 ∨ (wtk T b l i).1 = 3 ∨ (10 ≤ (wtk T b l i).1 ∧ (wtk T b l i).1 ≤ 13)
  | 0, _ => Or.inl rfl
  | i + 1, hi => by
    rw [wtk_s]
    split
    · show (if i < 6 then 3 else 4 + i) = 1 ∨ (if i < 6 then 3 else 4 + i) = 3 ∨ (10 ≤ (if i < 6 then 3 else 4 + i) ∧ (if i < 6 then 3 else 4 + i) ≤ 13)
      split
      · omega
      · omega
    · exact wtk_b T b l i (by omega)
/-- what l digits come to -/
def nv (T : Nat → Nat) (b : Nat) : Nat → Int32
  | 0 => 0
  | j + 1 => 10 * nv T b j + nI (T (b + j)) - 48
theorem nv_s (T : Nat → Nat) (b j : Nat) : nv T b (j + 1) = 10 * nv T b j + nI (T (b + j)) - 48 := rfl
/-- the token at b, which is no blank: its end, its kind, its value -/
def tka (T : Nat → Nat) (n b : Nat) : Nat × Nat × Int32 := if n ≤ b then (b, 0, 0) else if isL T b = true then (scn (isL T) (n - b) b, (wtk T b (scn (isL T) (n - b) b - b) 10).1, nI (wtk T b (scn (isL T) (n - b) b - b) 10).2) else if isD T b = true then (scn (isD T) (n - b) b, (if scn (isD T) (n - b) b - b ≤ 4 then 2 else 1), nv T b (scn (isD T) (n - b) b - b)) else (b + 1, (if isB T b = true then 1 else if T b = 40 ∨ T b = 41 ∨ T b = 42 ∨ T b = 43 ∨ T b = 45 ∨ T b = 59 ∨ T b = 60 ∨ T b = 61 then T b else 1), 0)
def skp (T : Nat → Nat) (n a : Nat) : Nat := scn (isB T) (n - a) a
theorem skp_b (T : Nat → Nat) {n a : Nat} (h : a ≤ n) : a ≤ skp T n a ∧ skp T n a ≤ n := by
  have := scn_b (isB T) (n - a) a
  unfold skp
  omega
theorem scn_p (f : Nat → Bool) {g a : Nat} (hg : 0 < g) (hf : f a = true) : a < scn f g a := by
  obtain ⟨k, rfl⟩ : ∃ k, g = k + 1 := ⟨g - 1, by omega⟩
  rw [scn_s, if_pos hf]
  have := (scn_b f k (a + 1)).1
  omega
theorem tka_b (T : Nat → Nat) {n b : Nat} (h : b ≤ n) : b ≤ (tka T n b).1 ∧ (tka T n b).1 ≤ n ∧ (tka T n b).2.1 ≤ 61 ∧ ((tka T n b).2.1 ≠ 0 → b < (tka T n b).1) ∧ ((tka T n b).2.1 = 0 → b = n) := by
  unfold tka
  by_cases h0 : n ≤ b
  · rw [if_pos h0]
    refine ⟨Nat.le_refl _, h, ?_, fun q => absurd rfl q, fun _ => by omega⟩
    show 0 ≤ 61
    omega
  · rw [if_neg h0]
    by_cases h1 : isL T b = true
    · rw [if_pos h1]
      have s1 := scn_b (isL T) (n - b) b
      have s2 := scn_p (isL T) (show 0 < n - b by omega) h1
      have w := wtk_b T b (scn (isL T) (n - b) b - b) 10 (Nat.le_refl _)
      refine ⟨s1.1, by show scn (isL T) (n - b) b ≤ n; omega, ?_, fun _ => s2, fun q => ?_⟩
      · show (wtk T b (scn (isL T) (n - b) b - b) 10).1 ≤ 61
        omega
      · have q' : (wtk T b (scn (isL T) (n - b) b - b) 10).1 = 0 := q
        omega
    · rw [if_neg h1]
      by_cases h2 : isD T b = true
      · rw [if_pos h2]
        have s1 := scn_b (isD T) (n - b) b
        have s2 := scn_p (isD T) (show 0 < n - b by omega) h2
        refine ⟨s1.1, by show scn (isD T) (n - b) b ≤ n; omega, ?_, fun _ => s2, fun q => ?_⟩
        · show (if scn (isD T) (n - b) b - b ≤ 4 then 2 else 1) ≤ 61
          split <;> omega
        · have q' : (if scn (isD T) (n - b) b - b ≤ 4 then 2 else 1) = 0 := q
          split at q' <;> omega
      · rw [if_neg h2]
        refine ⟨by show b ≤ b + 1; omega, by show b + 1 ≤ n; omega, ?_, fun _ => by show b < b + 1; omega, fun q => ?_⟩
        · show (if isB T b = true then 1 else if T b = 40 ∨ T b = 41 ∨ T b = 42 ∨ T b = 43 ∨ T b = 45 ∨ T b = 59 ∨ T b = 60 ∨ T b = 61 then T b else 1) ≤ 61
          split
          · omega
          · split <;> omega
        · have q' : (if isB T b = true then 1 else if T b = 40 ∨ T b = 41 ∨ T b = 42 ∨ T b = 43 ∨ T b = 45 ∨ T b = 59 ∨ T b = 60 ∨ T b = 61 then T b else 1) = 0 := q
          split at q'
          · omega
          · split at q' <;> omega
/-- a text's bytes in a row -/
def TX (T : Nat → Nat) (n : Nat) (r : Nat → Int32) : Prop := ∀ i, i < n → T i < 256 ∧ r i = nI (T i)
theorem zs40 {v : Nat} (hv : v < 2 ^ 31) : (nI v = (40 : Int32)) ↔ v = 40 := nI_eq (b := 40) hv (by decide)
theorem zs41 {v : Nat} (hv : v < 2 ^ 31) : (nI v = (41 : Int32)) ↔ v = 41 := nI_eq (b := 41) hv (by decide)
theorem zs42 {v : Nat} (hv : v < 2 ^ 31) : (nI v = (42 : Int32)) ↔ v = 42 := nI_eq (b := 42) hv (by decide)
theorem zs43 {v : Nat} (hv : v < 2 ^ 31) : (nI v = (43 : Int32)) ↔ v = 43 := nI_eq (b := 43) hv (by decide)
theorem zs44 {v : Nat} (hv : v < 2 ^ 31) : (nI v = (44 : Int32)) ↔ v = 44 := nI_eq (b := 44) hv (by decide)
theorem zs45 {v : Nat} (hv : v < 2 ^ 31) : (nI v = (45 : Int32)) ↔ v = 45 := nI_eq (b := 45) hv (by decide)
theorem zs46 {v : Nat} (hv : v < 2 ^ 31) : (nI v = (46 : Int32)) ↔ v = 46 := nI_eq (b := 46) hv (by decide)
theorem zs47 {v : Nat} (hv : v < 2 ^ 31) : (nI v = (47 : Int32)) ↔ v = 47 := nI_eq (b := 47) hv (by decide)
theorem zs48 {v : Nat} (hv : v < 2 ^ 31) : (nI v = (48 : Int32)) ↔ v = 48 := nI_eq (b := 48) hv (by decide)
theorem zs49 {v : Nat} (hv : v < 2 ^ 31) : (nI v = (49 : Int32)) ↔ v = 49 := nI_eq (b := 49) hv (by decide)
theorem zs50 {v : Nat} (hv : v < 2 ^ 31) : (nI v = (50 : Int32)) ↔ v = 50 := nI_eq (b := 50) hv (by decide)
theorem zs51 {v : Nat} (hv : v < 2 ^ 31) : (nI v = (51 : Int32)) ↔ v = 51 := nI_eq (b := 51) hv (by decide)
theorem zs52 {v : Nat} (hv : v < 2 ^ 31) : (nI v = (52 : Int32)) ↔ v = 52 := nI_eq (b := 52) hv (by decide)
theorem zs53 {v : Nat} (hv : v < 2 ^ 31) : (nI v = (53 : Int32)) ↔ v = 53 := nI_eq (b := 53) hv (by decide)
theorem zs54 {v : Nat} (hv : v < 2 ^ 31) : (nI v = (54 : Int32)) ↔ v = 54 := nI_eq (b := 54) hv (by decide)
theorem zs55 {v : Nat} (hv : v < 2 ^ 31) : (nI v = (55 : Int32)) ↔ v = 55 := nI_eq (b := 55) hv (by decide)
theorem zs56 {v : Nat} (hv : v < 2 ^ 31) : (nI v = (56 : Int32)) ↔ v = 56 := nI_eq (b := 56) hv (by decide)
theorem zs57 {v : Nat} (hv : v < 2 ^ 31) : (nI v = (57 : Int32)) ↔ v = 57 := nI_eq (b := 57) hv (by decide)
theorem zs58 {v : Nat} (hv : v < 2 ^ 31) : (nI v = (58 : Int32)) ↔ v = 58 := nI_eq (b := 58) hv (by decide)
theorem zs59 {v : Nat} (hv : v < 2 ^ 31) : (nI v = (59 : Int32)) ↔ v = 59 := nI_eq (b := 59) hv (by decide)
theorem zs60 {v : Nat} (hv : v < 2 ^ 31) : (nI v = (60 : Int32)) ↔ v = 60 := nI_eq (b := 60) hv (by decide)
theorem zs61 {v : Nat} (hv : v < 2 ^ 31) : (nI v = (61 : Int32)) ↔ v = 61 := nI_eq (b := 61) hv (by decide)
theorem zs32 {v : Nat} (hv : v < 2 ^ 31) : (nI v = (32 : Int32)) ↔ v = 32 := nI_eq (b := 32) hv (by decide)
theorem zs97 {v : Nat} (hv : v < 2 ^ 31) : (nI v = (97 : Int32)) ↔ v = 97 := nI_eq (b := 97) hv (by decide)
theorem zs122 {v : Nat} (hv : v < 2 ^ 31) : (nI v = (122 : Int32)) ↔ v = 122 := nI_eq (b := 122) hv (by decide)
theorem zs10 {v : Nat} (hv : v < 2 ^ 31) : (nI v = (10 : Int32)) ↔ v = 10 := nI_eq (b := 10) hv (by decide)
theorem zs1 {v : Nat} (hv : v < 2 ^ 31) : (nI v = (1 : Int32)) ↔ v = 1 := nI_eq (b := 1) hv (by decide)
theorem zs2 {v : Nat} (hv : v < 2 ^ 31) : (nI v = (2 : Int32)) ↔ v = 2 := nI_eq (b := 2) hv (by decide)
theorem zs3 {v : Nat} (hv : v < 2 ^ 31) : (nI v = (3 : Int32)) ↔ v = 3 := nI_eq (b := 3) hv (by decide)
theorem zs0 {v : Nat} (hv : v < 2 ^ 31) : (nI v = (0 : Int32)) ↔ v = 0 := nI_eq (b := 0) hv (by decide)
section S80
variable (d : Nat) (M : Nat → Nat → Int32) (J : Nat → Nat → Int64) (R : Nat → Nat → Option Nat) (nL : Nat) (xs : Nat → Int32) (D : px_H)
theorem lt97 {v : Nat} (hv : v < 2 ^ 31) : (nI v < (97 : Int32)) ↔ v < 97 := nI_ltI (b := 97) hv (by decide)
theorem gt122 {v : Nat} (hv : v < 2 ^ 31) : ((122 : Int32) < nI v) ↔ 122 < v := nI_ltI (a := 122) (by decide) hv
theorem lt48 {v : Nat} (hv : v < 2 ^ 31) : (nI v < (48 : Int32)) ↔ v < 48 := nI_ltI (b := 48) hv (by decide)
theorem gt57 {v : Nat} (hv : v < 2 ^ 31) : ((57 : Int32) < nI v) ↔ 57 < v := nI_ltI (a := 57) (by decide) hv
theorem c_isLet_38 {v : Nat} (hv : v < 256) : px_ex px_tab (d + 1) 62 [Value.int (nI v)] (hp (M) (J) (R) (38) (43) nL xs (D)) = some (some (Value.int (if 97 ≤ v ∧ v ≤ 122 then 1 else 0)), (hp (M) (J) (R) (38) (43) nL xs (D))) := by
  rw [xX5_isLetter]
  simp (disch := omega) only [px_bd_s, px_psh_s, px_psh_n, px_vb_s, px_ib_s, px_wb_s, px_bo_s, px_bo_n, Bool.cond_decide, cond_true, cond_false, ite_not, Bool.and_true, if_true, if_false, not_true_eq_false, not_false_eq_true, i10, eq_self, decide_true, decide_false, Bool.or_true, Bool.true_or, Bool.or_false, Bool.false_or, Bool.false_eq_true, eX5_isLetter_38_0, lt97, gt122]
  by_cases h1 : v < 97
  · rw [if_pos h1, if_neg (by omega)]
    simp only [px_bd_s, px_psh_s, px_psh_n, px_vb_s, px_ib_s, px_wb_s, px_bo_s, px_bo_n, Bool.cond_decide, cond_true, cond_false, ite_not, Bool.and_true, if_true, if_false, not_true_eq_false, not_false_eq_true, i10, eq_self, decide_true, decide_false, Bool.or_true, Bool.true_or, Bool.or_false, Bool.false_or, Bool.false_eq_true, eX5_isLetter_38_16, eX5_isLetter_38_17]
  · rw [if_neg h1]
    by_cases h2 : 122 < v
    · rw [if_pos h2, if_neg (by omega)]
      simp only [px_bd_s, px_psh_s, px_psh_n, px_vb_s, px_ib_s, px_wb_s, px_bo_s, px_bo_n, Bool.cond_decide, cond_true, cond_false, ite_not, Bool.and_true, if_true, if_false, not_true_eq_false, not_false_eq_true, i10, eq_self, decide_true, decide_false, Bool.or_true, Bool.true_or, Bool.or_false, Bool.false_or, Bool.false_eq_true, eX5_isLetter_38_16, eX5_isLetter_38_17]
    · rw [if_neg h2, if_pos (by omega)]
      simp only [px_bd_s, px_psh_s, px_psh_n, px_vb_s, px_ib_s, px_wb_s, px_bo_s, px_bo_n, Bool.cond_decide, cond_true, cond_false, ite_not, Bool.and_true, if_true, if_false, not_true_eq_false, not_false_eq_true, i10, eq_self, decide_true, decide_false, Bool.or_true, Bool.true_or, Bool.or_false, Bool.false_or, Bool.false_eq_true, eX5_isLetter_38_16, eX5_isLetter_38_17]
theorem c_isDig_38 {v : Nat} (hv : v < 256) : px_ex px_tab (d + 1) 63 [Value.int (nI v)] (hp (M) (J) (R) (38) (43) nL xs (D)) = some (some (Value.int (if 48 ≤ v ∧ v ≤ 57 then 1 else 0)), (hp (M) (J) (R) (38) (43) nL xs (D))) := by
  rw [xX5_isDigit]
  simp (disch := omega) only [px_bd_s, px_psh_s, px_psh_n, px_vb_s, px_ib_s, px_wb_s, px_bo_s, px_bo_n, Bool.cond_decide, cond_true, cond_false, ite_not, Bool.and_true, if_true, if_false, not_true_eq_false, not_false_eq_true, i10, eq_self, decide_true, decide_false, Bool.or_true, Bool.true_or, Bool.or_false, Bool.false_or, Bool.false_eq_true, eX5_isDigit_38_0, lt48, gt57]
  by_cases h1 : v < 48
  · rw [if_pos h1, if_neg (by omega)]
    simp only [px_bd_s, px_psh_s, px_psh_n, px_vb_s, px_ib_s, px_wb_s, px_bo_s, px_bo_n, Bool.cond_decide, cond_true, cond_false, ite_not, Bool.and_true, if_true, if_false, not_true_eq_false, not_false_eq_true, i10, eq_self, decide_true, decide_false, Bool.or_true, Bool.true_or, Bool.or_false, Bool.false_or, Bool.false_eq_true, eX5_isDigit_38_16, eX5_isDigit_38_17]
  · rw [if_neg h1]
    by_cases h2 : 57 < v
    · rw [if_pos h2, if_neg (by omega)]
      simp only [px_bd_s, px_psh_s, px_psh_n, px_vb_s, px_ib_s, px_wb_s, px_bo_s, px_bo_n, Bool.cond_decide, cond_true, cond_false, ite_not, Bool.and_true, if_true, if_false, not_true_eq_false, not_false_eq_true, i10, eq_self, decide_true, decide_false, Bool.or_true, Bool.true_or, Bool.or_false, Bool.false_or, Bool.false_eq_true, eX5_isDigit_38_16, eX5_isDigit_38_17]
    · rw [if_neg h2, if_pos (by omega)]
      simp only [px_bd_s, px_psh_s, px_psh_n, px_vb_s, px_ib_s, px_wb_s, px_bo_s, px_bo_n, Bool.cond_decide, cond_true, cond_false, ite_not, Bool.and_true, if_true, if_false, not_true_eq_false, not_false_eq_true, i10, eq_self, decide_true, decide_false, Bool.or_true, Bool.true_or, Bool.or_false, Bool.false_or, Bool.false_eq_true, eX5_isDigit_38_16, eX5_isDigit_38_17]
theorem c_isSgn_38 {v : Nat} (hv : v < 256) : px_ex px_tab (d + 1) 64 [Value.int (nI v)] (hp (M) (J) (R) (38) (43) nL xs (D)) = some (some (Value.int (if v = 40 ∨ v = 41 ∨ v = 42 ∨ v = 43 ∨ v = 45 ∨ v = 59 ∨ v = 60 ∨ v = 61 then 1 else 0)), (hp (M) (J) (R) (38) (43) nL xs (D))) := by
  rw [xX5_isSign, eX5_isSign_38_0, eX5_isSign_38_104, eX5_isSign_38_106]
  by_cases h : 40 ≤ v ∧ v ≤ 61
  · rcases (by omega : v = 40 ∨ v = 41 ∨ v = 42 ∨ v = 43 ∨ v = 44 ∨ v = 45 ∨ v = 46 ∨ v = 47 ∨ v = 48 ∨ v = 49 ∨ v = 50 ∨ v = 51 ∨ v = 52 ∨ v = 53 ∨ v = 54 ∨ v = 55 ∨ v = 56 ∨ v = 57 ∨ v = 58 ∨ v = 59 ∨ v = 60 ∨ v = 61) with rfl | rfl | rfl | rfl | rfl | rfl | rfl | rfl | rfl | rfl | rfl | rfl | rfl | rfl | rfl | rfl | rfl | rfl | rfl | rfl | rfl | rfl <;> rfl
  · rw [if_neg (show ¬ (v = 40 ∨ v = 41 ∨ v = 42 ∨ v = 43 ∨ v = 45 ∨ v = 59 ∨ v = 60 ∨ v = 61) by omega)]
    have hn : ∀ k, 40 ≤ k → k ≤ 61 → decide (nI v = nI k) = false := fun k h1 h2 => decide_eq_false fun h3 => by
      have := (nI_eq (by omega) (by omega)).mp h3
      omega
    rw [show decide (nI v = (40 : Int32)) = false from hn 40 (by decide) (by decide), show decide (nI v = (41 : Int32)) = false from hn 41 (by decide) (by decide), show decide (nI v = (42 : Int32)) = false from hn 42 (by decide) (by decide), show decide (nI v = (43 : Int32)) = false from hn 43 (by decide) (by decide), show decide (nI v = (44 : Int32)) = false from hn 44 (by decide) (by decide), show decide (nI v = (45 : Int32)) = false from hn 45 (by decide) (by decide), show decide (nI v = (46 : Int32)) = false from hn 46 (by decide) (by decide), show decide (nI v = (47 : Int32)) = false from hn 47 (by decide) (by decide), show decide (nI v = (48 : Int32)) = false from hn 48 (by decide) (by decide), show decide (nI v = (49 : Int32)) = false from hn 49 (by decide) (by decide), show decide (nI v = (50 : Int32)) = false from hn 50 (by decide) (by decide), show decide (nI v = (51 : Int32)) = false from hn 51 (by decide) (by decide), show decide (nI v = (52 : Int32)) = false from hn 52 (by decide) (by decide), show decide (nI v = (53 : Int32)) = false from hn 53 (by decide) (by decide), show decide (nI v = (54 : Int32)) = false from hn 54 (by decide) (by decide), show decide (nI v = (55 : Int32)) = false from hn 55 (by decide) (by decide), show decide (nI v = (56 : Int32)) = false from hn 56 (by decide) (by decide), show decide (nI v = (57 : Int32)) = false from hn 57 (by decide) (by decide), show decide (nI v = (58 : Int32)) = false from hn 58 (by decide) (by decide), show decide (nI v = (59 : Int32)) = false from hn 59 (by decide) (by decide), show decide (nI v = (60 : Int32)) = false from hn 60 (by decide) (by decide), show decide (nI v = (61 : Int32)) = false from hn 61 (by decide) (by decide)]
    rfl
theorem c_isLet_43 {v : Nat} (hv : v < 256) : px_ex px_tab (d + 1) 62 [Value.int (nI v)] (hp (M) (J) (R) (43) (38) nL xs (D)) = some (some (Value.int (if 97 ≤ v ∧ v ≤ 122 then 1 else 0)), (hp (M) (J) (R) (43) (38) nL xs (D))) := by
  rw [xX5_isLetter]
  simp (disch := omega) only [px_bd_s, px_psh_s, px_psh_n, px_vb_s, px_ib_s, px_wb_s, px_bo_s, px_bo_n, Bool.cond_decide, cond_true, cond_false, ite_not, Bool.and_true, if_true, if_false, not_true_eq_false, not_false_eq_true, i10, eq_self, decide_true, decide_false, Bool.or_true, Bool.true_or, Bool.or_false, Bool.false_or, Bool.false_eq_true, eX5_isLetter_43_0, lt97, gt122]
  by_cases h1 : v < 97
  · rw [if_pos h1, if_neg (by omega)]
    simp only [px_bd_s, px_psh_s, px_psh_n, px_vb_s, px_ib_s, px_wb_s, px_bo_s, px_bo_n, Bool.cond_decide, cond_true, cond_false, ite_not, Bool.and_true, if_true, if_false, not_true_eq_false, not_false_eq_true, i10, eq_self, decide_true, decide_false, Bool.or_true, Bool.true_or, Bool.or_false, Bool.false_or, Bool.false_eq_true, eX5_isLetter_43_16, eX5_isLetter_43_17]
  · rw [if_neg h1]
    by_cases h2 : 122 < v
    · rw [if_pos h2, if_neg (by omega)]
      simp only [px_bd_s, px_psh_s, px_psh_n, px_vb_s, px_ib_s, px_wb_s, px_bo_s, px_bo_n, Bool.cond_decide, cond_true, cond_false, ite_not, Bool.and_true, if_true, if_false, not_true_eq_false, not_false_eq_true, i10, eq_self, decide_true, decide_false, Bool.or_true, Bool.true_or, Bool.or_false, Bool.false_or, Bool.false_eq_true, eX5_isLetter_43_16, eX5_isLetter_43_17]
    · rw [if_neg h2, if_pos (by omega)]
      simp only [px_bd_s, px_psh_s, px_psh_n, px_vb_s, px_ib_s, px_wb_s, px_bo_s, px_bo_n, Bool.cond_decide, cond_true, cond_false, ite_not, Bool.and_true, if_true, if_false, not_true_eq_false, not_false_eq_true, i10, eq_self, decide_true, decide_false, Bool.or_true, Bool.true_or, Bool.or_false, Bool.false_or, Bool.false_eq_true, eX5_isLetter_43_16, eX5_isLetter_43_17]
theorem c_isDig_43 {v : Nat} (hv : v < 256) : px_ex px_tab (d + 1) 63 [Value.int (nI v)] (hp (M) (J) (R) (43) (38) nL xs (D)) = some (some (Value.int (if 48 ≤ v ∧ v ≤ 57 then 1 else 0)), (hp (M) (J) (R) (43) (38) nL xs (D))) := by
  rw [xX5_isDigit]
  simp (disch := omega) only [px_bd_s, px_psh_s, px_psh_n, px_vb_s, px_ib_s, px_wb_s, px_bo_s, px_bo_n, Bool.cond_decide, cond_true, cond_false, ite_not, Bool.and_true, if_true, if_false, not_true_eq_false, not_false_eq_true, i10, eq_self, decide_true, decide_false, Bool.or_true, Bool.true_or, Bool.or_false, Bool.false_or, Bool.false_eq_true, eX5_isDigit_43_0, lt48, gt57]
  by_cases h1 : v < 48
  · rw [if_pos h1, if_neg (by omega)]
    simp only [px_bd_s, px_psh_s, px_psh_n, px_vb_s, px_ib_s, px_wb_s, px_bo_s, px_bo_n, Bool.cond_decide, cond_true, cond_false, ite_not, Bool.and_true, if_true, if_false, not_true_eq_false, not_false_eq_true, i10, eq_self, decide_true, decide_false, Bool.or_true, Bool.true_or, Bool.or_false, Bool.false_or, Bool.false_eq_true, eX5_isDigit_43_16, eX5_isDigit_43_17]
  · rw [if_neg h1]
    by_cases h2 : 57 < v
    · rw [if_pos h2, if_neg (by omega)]
      simp only [px_bd_s, px_psh_s, px_psh_n, px_vb_s, px_ib_s, px_wb_s, px_bo_s, px_bo_n, Bool.cond_decide, cond_true, cond_false, ite_not, Bool.and_true, if_true, if_false, not_true_eq_false, not_false_eq_true, i10, eq_self, decide_true, decide_false, Bool.or_true, Bool.true_or, Bool.or_false, Bool.false_or, Bool.false_eq_true, eX5_isDigit_43_16, eX5_isDigit_43_17]
    · rw [if_neg h2, if_pos (by omega)]
      simp only [px_bd_s, px_psh_s, px_psh_n, px_vb_s, px_ib_s, px_wb_s, px_bo_s, px_bo_n, Bool.cond_decide, cond_true, cond_false, ite_not, Bool.and_true, if_true, if_false, not_true_eq_false, not_false_eq_true, i10, eq_self, decide_true, decide_false, Bool.or_true, Bool.true_or, Bool.or_false, Bool.false_or, Bool.false_eq_true, eX5_isDigit_43_16, eX5_isDigit_43_17]
theorem c_isSgn_43 {v : Nat} (hv : v < 256) : px_ex px_tab (d + 1) 64 [Value.int (nI v)] (hp (M) (J) (R) (43) (38) nL xs (D)) = some (some (Value.int (if v = 40 ∨ v = 41 ∨ v = 42 ∨ v = 43 ∨ v = 45 ∨ v = 59 ∨ v = 60 ∨ v = 61 then 1 else 0)), (hp (M) (J) (R) (43) (38) nL xs (D))) := by
  rw [xX5_isSign, eX5_isSign_43_0, eX5_isSign_43_104, eX5_isSign_43_106]
  by_cases h : 40 ≤ v ∧ v ≤ 61
  · rcases (by omega : v = 40 ∨ v = 41 ∨ v = 42 ∨ v = 43 ∨ v = 44 ∨ v = 45 ∨ v = 46 ∨ v = 47 ∨ v = 48 ∨ v = 49 ∨ v = 50 ∨ v = 51 ∨ v = 52 ∨ v = 53 ∨ v = 54 ∨ v = 55 ∨ v = 56 ∨ v = 57 ∨ v = 58 ∨ v = 59 ∨ v = 60 ∨ v = 61) with rfl | rfl | rfl | rfl | rfl | rfl | rfl | rfl | rfl | rfl | rfl | rfl | rfl | rfl | rfl | rfl | rfl | rfl | rfl | rfl | rfl | rfl <;> rfl
  · rw [if_neg (show ¬ (v = 40 ∨ v = 41 ∨ v = 42 ∨ v = 43 ∨ v = 45 ∨ v = 59 ∨ v = 60 ∨ v = 61) by omega)]
    have hn : ∀ k, 40 ≤ k → k ≤ 61 → decide (nI v = nI k) = false := fun k h1 h2 => decide_eq_false fun h3 => by
      have := (nI_eq (by omega) (by omega)).mp h3
      omega
    rw [show decide (nI v = (40 : Int32)) = false from hn 40 (by decide) (by decide), show decide (nI v = (41 : Int32)) = false from hn 41 (by decide) (by decide), show decide (nI v = (42 : Int32)) = false from hn 42 (by decide) (by decide), show decide (nI v = (43 : Int32)) = false from hn 43 (by decide) (by decide), show decide (nI v = (44 : Int32)) = false from hn 44 (by decide) (by decide), show decide (nI v = (45 : Int32)) = false from hn 45 (by decide) (by decide), show decide (nI v = (46 : Int32)) = false from hn 46 (by decide) (by decide), show decide (nI v = (47 : Int32)) = false from hn 47 (by decide) (by decide), show decide (nI v = (48 : Int32)) = false from hn 48 (by decide) (by decide), show decide (nI v = (49 : Int32)) = false from hn 49 (by decide) (by decide), show decide (nI v = (50 : Int32)) = false from hn 50 (by decide) (by decide), show decide (nI v = (51 : Int32)) = false from hn 51 (by decide) (by decide), show decide (nI v = (52 : Int32)) = false from hn 52 (by decide) (by decide), show decide (nI v = (53 : Int32)) = false from hn 53 (by decide) (by decide), show decide (nI v = (54 : Int32)) = false from hn 54 (by decide) (by decide), show decide (nI v = (55 : Int32)) = false from hn 55 (by decide) (by decide), show decide (nI v = (56 : Int32)) = false from hn 56 (by decide) (by decide), show decide (nI v = (57 : Int32)) = false from hn 57 (by decide) (by decide), show decide (nI v = (58 : Int32)) = false from hn 58 (by decide) (by decide), show decide (nI v = (59 : Int32)) = false from hn 59 (by decide) (by decide), show decide (nI v = (60 : Int32)) = false from hn 60 (by decide) (by decide), show decide (nI v = (61 : Int32)) = false from hn 61 (by decide) (by decide)]
    rfl
end S80
