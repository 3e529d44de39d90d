/-! PART 22: finds: the relation between the class's cells and the model's rows; STOOD -/
def fdF (kd sq la sz hc tk cm : Nat → Int32) (i : Nat) : Nat → Int32 := fun k => match k with
  | 0 => kd i
  | 1 => sq i
  | 2 => la i
  | 3 => sz i
  | 4 => hc i
  | 6 => if tk i = -1 then 1 else 0
  | 7 => if tk i < 0 then -1 else tk i
  | 8 => if tk i < 0 then -1 else cm i
  | _ => 0
def fdR (kd sq la sz hc tk : Nat → Int32) (i : Nat) : Prop := (∃ a, a ≤ 5 ∧ kd i = nI a) ∧ (∃ a, a ≤ 99 ∧ sq i = nI a) ∧ (∃ a, a ≤ 3 ∧ la i = nI a) ∧ (∃ a, 1 ≤ a ∧ a ≤ 9 ∧ sz i = nI a) ∧ (∃ a, a ≤ 8 ∧ hc i = nI a) ∧ (tk i = -1 ∨ tk i = -2 ∨ ∃ a, a < 6 ∧ tk i = nI a)
def IFn (n : Nat) (P : Nat → Nat) (H : Nat → Nat → Int32) (n28 n67 : Int32) (R29 : Nat → Option Nat) (D : px_H) (kd sq la sz hc hl tk cm : Nat → Int32) : Prop :=
  n ≤ 20 ∧ n28 = nI n ∧ n67 = nI n ∧ (∀ i j, i < n → j < n → P i = P j → i = j) ∧
  (∀ i, i < n → R29 i = some (111 + P i) ∧ fdAt D (P i) (fdF kd sq la sz hc tk cm i) (H i) ∧ fdR kd sq la sz hc tk i ∧ ∀ k, k < 8 → nI k < hc i → hl (8 * i + k) = H i k) ∧
  ∀ i, n ≤ i → i < 20 → hc i = 0
theorem le_pred {v : Int32} {n : Nat} (h : n < 2 ^ 31) : v ≤ nI n - 1 ↔ ¬ nI n ≤ v := by
  rw [Int32.le_iff_toInt_le, Int32.le_iff_toInt_le, Int32.toInt_sub, nI_toInt h, show (1 : Int32).toInt = 1 from rfl]
  have h1 := v.toInt_lt
  have h2 := v.le_toInt
  rw [show (((n : Int) - 1).bmod (2 ^ 32)) = (n : Int) - 1 from Int.bmod_eq_of_le (by omega) (by omega)]
  omega
theorem in_y {i n : Nat} (hi : i < n) (hn : n < 2 ^ 31) : px_in (nI i) 0 (nI n - 1) = 1 := by
  unfold px_in
  rw [if_pos ⟨nI_pos' (by omega), (le_pred hn).mpr (nI_ge hi hn)⟩]
theorem in_n {v : Int32} {n : Nat} (hn : n < 2 ^ 31) (h : v < 0 ∨ nI n ≤ v) : px_in v 0 (nI n - 1) = 0 := by
  unfold px_in
  rw [if_neg]
  rintro ⟨h1, h2⟩
  rcases h with h | h
  · exact Int32.not_lt.mpr h1 h
  · exact (le_pred hn).mp h2 h
/-- how many decks it fell -/
def dn (h : Int32) : Nat → Nat
  | 0 => 0
  | k + 1 => if (h >>> (nI (k + 1) &&& 31)) &&& 1 = 1 then dn h k + 1 else 0
theorem dn_le (h : Int32) : ∀ k, dn h k ≤ k
  | 0 => Nat.le_refl _
  | k + 1 => by
    unfold dn
    have := dn_le h k
    split <;> omega
def pl (h ro sq la : Int32) (k : Nat) : Int32 := if (if 3 < nI (dn h k) then 3 else nI (dn h k)) = la ∧ ¬ (sq - sq / 10 * 10 - nI (dn h k) * ro) < 0 ∧ ¬ 10 ≤ (sq - sq / 10 * 10 - nI (dn h k) * ro) then sq - sq / 10 * 10 - nI (dn h k) * ro else -1
def wy (p : Nat → Int32) (tl i : Int32) : Nat → Nat → Int32 → Int32
  | 0, _, n => if tl = 0 then n else -1
  | g + 1, k, n => if p k = -1 then wy p tl i g (k + 1) n else if ¬ tl = 0 ∧ n = i then 10 * nI k + p k else wy p tl i g (k + 1) (n + 1)
theorem pl_or (h ro sq la : Int32) (k : Nat) : pl h ro sq la k = -1 ∨ ∃ q, q < 10 ∧ pl h ro sq la k = nI q := by
  by_cases hc : (if 3 < nI (dn h k) then 3 else nI (dn h k)) = la ∧ ¬ (sq - sq / 10 * 10 - nI (dn h k) * ro) < 0 ∧ ¬ 10 ≤ (sq - sq / 10 * 10 - nI (dn h k) * ro)
  · obtain ⟨j, hj, e⟩ := nI_of2 (x := sq - sq / 10 * 10 - nI (dn h k) * ro) (M := 9) (n := 9) (by decide) hc.2.1 (by
      have := Int32.lt_iff_toInt_lt.mp (Int32.not_le.mp hc.2.2)
      rw [Int32.le_iff_toInt_le]
      rw [show (10 : Int32).toInt = 10 from rfl] at this
      rw [show (9 : Int32).toInt = 9 from rfl]
      omega)
    exact Or.inr ⟨j, by omega, by unfold pl; rw [if_pos hc, e]⟩
  · exact Or.inl (by unfold pl; rw [if_neg hc])
/-- when the model's test holds at an x -/
theorem pl_iff {h ro sq la : Int32} {k j : Nat} (hj : j < 10) : (nI j + nI (dn h k) * ro = sq - sq / 10 * 10 ∧ (if nI (dn h k) ≤ 3 then nI (dn h k) else 3) = la) ↔ pl h ro sq la k = nI j := by
  have e3 : (if nI (dn h k) ≤ 3 then nI (dn h k) else 3) = (if 3 < nI (dn h k) then 3 else nI (dn h k)) := by
    by_cases h3 : nI (dn h k) ≤ 3
    · rw [if_pos h3, if_neg (Int32.not_lt.mpr h3)]
    · rw [if_neg h3, if_pos (Int32.not_le.mp h3)]
  rw [e3]
  constructor
  · rintro ⟨h1, h2⟩
    have hx : sq - sq / 10 * 10 - nI (dn h k) * ro = nI j := by rw [← h1, Int32.add_sub_cancel]
    unfold pl
    rw [hx, if_pos ⟨h2, nI_pos (by omega), nI_ge (b := 10) hj (by decide) |> fun q => fun q' => q q'⟩]
  · intro h1
    unfold pl at h1
    split at h1
    · rename_i hc
      exact ⟨by rw [← h1, Int32.sub_add_cancel], hc.1⟩
    · exact absurd h1.symm (nI_n1 (by omega))
section S22
variable (d : Nat) (M : Nat → Nat → Int32) (J : Nat → Nat → Int64) (R : Nat → Nat → Option Nat) (c e nL : Nat) (xs : Nat → Int32) (D : px_H)
theorem c_dn : ∀ (k : Nat) (v : Int32) (o : Option Value), k < 2 ^ 31 → px_run (px_mk (kX9_decksDown (px_ex px_tab d))) 4 ([some (.ref (58)), o, some (.int (v)), some (.int (nI k))], [], (hp (M) (J) (R) (c) (e) nL xs (D))) = some (some (.int (v + nI (dn (M 58 0) k))), (hp (M) (J) (R) (c) (e) nL xs (D)))
  | 0, v, o, _ => by
    rw [eX9_decksDown_4]
    simp (disch := omega) only [px_bd_s, px_psh_s, px_psh_n, px_vb_s, px_ib_s, px_wb_s, px_bo_s, px_bo_n, Bool.cond_decide, cond_true, cond_false, ite_not, li_le, li_lt, il_le, il_lt, il_eq, li_eq, nI_leI, nI_ltI, nI_eq, px_inbT, nI_clamp, nI_1, pk_m1, if_pos, if_neg, eX9_decksDown_29]
    unfold dn
    rw [nI_0, Int32.add_zero]
  | k + 1, v, o, hk => by
    rw [eX9_decksDown_4]
    unfold dn
    by_cases hb : (M 58 0 >>> (nI (k + 1) &&& 31)) &&& 1 = 1
    · simp (disch := omega) only [px_bd_s, px_psh_s, px_psh_n, px_vb_s, px_ib_s, px_wb_s, px_bo_s, px_bo_n, Bool.cond_decide, cond_true, cond_false, ite_not, li_le, li_lt, il_le, il_lt, il_eq, li_eq, nI_leI, nI_ltI, nI_eq, px_inbT, nI_clamp, nI_1, pk_m1, if_pos, if_neg, hb]
      rw [c_dn k (v + 1) none (by omega), nI_succ, Int32.add_assoc, Int32.add_comm 1]
    · simp (disch := omega) only [px_bd_s, px_psh_s, px_psh_n, px_vb_s, px_ib_s, px_wb_s, px_bo_s, px_bo_n, Bool.cond_decide, cond_true, cond_false, ite_not, li_le, li_lt, il_le, il_lt, il_eq, li_eq, nI_leI, nI_ltI, nI_eq, px_inbT, nI_clamp, nI_1, pk_m1, if_pos, if_neg, hb, eX9_decksDown_29]
      rw [nI_0, Int32.add_zero]
theorem c_decksDown (k : Nat) (hk : k < 2 ^ 31) : px_ex px_tab (d + 1) 108 [.ref (58), .int (nI k)] (hp (M) (J) (R) (c) (e) nL xs (D)) = some (some (.int (nI (dn (M 58 0) k))), (hp (M) (J) (R) (c) (e) nL xs (D))) := by
  rw [xX9_decksDown, eX9_decksDown_0, c_dn _ _ _ _ _ _ _ _ _ _ _ _ _ hk, Int32.zero_add]
theorem c_x {p : Nat} {F H : Nat → Int32} (h : fdAt D p F H) : px_ex px_tab (d + 1) 22 [.ref (111 + p)] (hp (M) (J) (R) (c) (e) nL xs (D)) = some (some (.int (F 1 - F 1 / 10 * 10)), (hp (M) (J) (R) (c) (e) nL xs (D))) := by
  rw [xX2_x]
  simp only [px_bd_s, px_psh_s, px_psh_n, px_vb_s, px_ib_s, px_wb_s, px_bo_s, px_bo_n, Bool.cond_decide, cond_true, cond_false, ite_not, eX2_x_0, eX2_x_0_1, eX2_x_0_2, fd_g1 h]
theorem c_y {p : Nat} {F H : Nat → Int32} (h : fdAt D p F H) : px_ex px_tab (d + 1) 23 [.ref (111 + p)] (hp (M) (J) (R) (c) (e) nL xs (D)) = some (some (.int (F 1 / 10)), (hp (M) (J) (R) (c) (e) nL xs (D))) := by
  rw [xX2_y]
  simp only [px_bd_s, px_psh_s, px_psh_n, px_vb_s, px_ib_s, px_wb_s, px_bo_s, px_bo_n, Bool.cond_decide, cond_true, cond_false, ite_not, eX2_y_0, eX2_y_0_1, eX2_y_0_2, fd_g1 h]
theorem c_placeOn {p : Nat} {F H : Nat → Int32} (h : fdAt D p F H) (k : Nat) (hk : k < 2 ^ 31) : px_ex px_tab (d + 2) 107 [.ref (58), .int (nI k), .ref (111 + p)] (hp (M) (J) (R) (c) (e) nL xs (D)) = some (some (.int (pl (M 58 0) (M 58 1) (F 1) (F 2) k)), (hp (M) (J) (R) (c) (e) nL xs (D))) := by
  rw [xX9_placeOn]
  simp only [px_bd_s, px_psh_s, px_psh_n, px_vb_s, px_ib_s, px_wb_s, px_bo_s, px_bo_n, Bool.cond_decide, cond_true, cond_false, ite_not, eX9_placeOn_0, eX9_placeOn_0_3, eX9_placeOn_0_5, eX9_placeOn_0_6, eX9_placeOn_0_16, eX9_placeOn_0_17, eX9_placeOn_35, eX9_placeOn_36, eX9_placeOn_60, eX9_placeOn_61, c_decksDown _ _ _ _ _ _ _ _ _ k hk, fd_isc h, c_x _ _ _ _ _ _ _ _ _ h, fd_g2 h]
  unfold pl
  by_cases h1 : (if 3 < nI (dn (M 58 0) k) then 3 else nI (dn (M 58 0) k)) = F 2
  · by_cases h2 : F 1 - F 1 / 10 * 10 - nI (dn (M 58 0) k) * M 58 1 < 0
    · simp [h1, h2]
    · by_cases h3 : 10 ≤ F 1 - F 1 / 10 * 10 - nI (dn (M 58 0) k) * M 58 1
      · simp [h1, h2, h3]
      · simp [h1, h2, h3]
  · simp [h1]
theorem c_ways_l {p : Nat} {F H : Nat → Int32} (h : fdAt D p F H) : ∀ (g k : Nat) (n : Int32), k + g = 5 → px_run (px_mk (kX9_ways (px_ex px_tab (d + 2)))) 4 ([some (.ref 58), some (.ref (111 + p)), some (.int n), some (.int (nI k))], [], (hp M J R c e nL xs D)) = some (some (.int (wy (pl (M 58 0) (M 58 1) (F 1) (F 2)) 0 0 g k n)), (hp (M) (J) (R) (c) (e) nL xs (D)))
  | 0, k, n, hk => by
    rw [eX9_ways_4]
    simp (disch := omega) only [px_bd_s, px_psh_s, px_psh_n, px_vb_s, px_ib_s, px_wb_s, px_bo_s, px_bo_n, Bool.cond_decide, cond_true, cond_false, ite_not, li_le, li_lt, il_le, il_lt, il_eq, li_eq, nI_leI, nI_ltI, nI_eq, px_inbT, nI_clamp, nI_1, pk_m1, if_pos, if_neg, eX9_ways_28]
    rfl
  | g + 1, k, n, hk => by
    rw [eX9_ways_4]
    simp (disch := omega) only [px_bd_s, px_psh_s, px_psh_n, px_vb_s, px_ib_s, px_wb_s, px_bo_s, px_bo_n, Bool.cond_decide, cond_true, cond_false, ite_not, li_le, li_lt, il_le, il_lt, il_eq, li_eq, nI_leI, nI_ltI, nI_eq, px_inbT, nI_clamp, nI_1, pk_m1, if_pos, if_neg, c_placeOn _ _ _ _ _ _ _ _ _ h, eX9_ways_4_7, eX9_ways_22, c_ways_l h g]
    unfold wy
    simp
theorem c_ways {p : Nat} {F H : Nat → Int32} (h : fdAt D p F H) : px_ex px_tab (d + 3) 105 [.ref (58), .ref (111 + p)] (hp (M) (J) (R) (c) (e) nL xs (D)) = some (some (.int (wy (pl (M 58 0) (M 58 1) (F 1) (F 2)) 0 0 5 0 0)), (hp (M) (J) (R) (c) (e) nL xs (D))) := by
  rw [xX9_ways, eX9_ways_0]
  exact c_ways_l _ _ _ _ _ _ _ _ _ h 5 0 0 rfl
theorem c_wayAt_l {p : Nat} {F H : Nat → Int32} (h : fdAt D p F H) (iv : Int32) : ∀ (g k : Nat) (n : Int32), k + g = 5 → px_run (px_mk (kX9_wayAt (px_ex px_tab (d + 2)))) 5 ([some (.ref 58), some (.ref (111 + p)), some (.int iv), some (.int n), some (.int (nI k)), none], [], (hp M J R c e nL xs D)) = some (some (.int (wy (pl (M 58 0) (M 58 1) (F 1) (F 2)) 1 iv g k n)), (hp (M) (J) (R) (c) (e) nL xs (D)))
  | 0, k, n, hk => by
    rw [eX9_wayAt_5]
    simp (disch := omega) only [px_bd_s, px_psh_s, px_psh_n, px_vb_s, px_ib_s, px_wb_s, px_bo_s, px_bo_n, Bool.cond_decide, cond_true, cond_false, ite_not, li_le, li_lt, il_le, il_lt, il_eq, li_eq, nI_leI, nI_ltI, nI_eq, px_inbT, nI_clamp, nI_1, pk_m1, if_pos, if_neg, eX9_wayAt_49]
    rfl
  | g + 1, k, n, hk => by
    rw [eX9_wayAt_5]
    simp (disch := omega) only [px_bd_s, px_psh_s, px_psh_n, px_vb_s, px_ib_s, px_wb_s, px_bo_s, px_bo_n, Bool.cond_decide, cond_true, cond_false, ite_not, li_le, li_lt, il_le, il_lt, il_eq, li_eq, nI_leI, nI_ltI, nI_eq, px_inbT, nI_clamp, nI_1, pk_m1, if_pos, if_neg, c_placeOn _ _ _ _ _ _ _ _ _ h, eX9_wayAt_5_7, eX9_wayAt_43, eX9_wayAt_40, c_wayAt_l h iv g]
    unfold wy
    by_cases h1 : pl (M 58 0) (M 58 1) (F 1) (F 2) k = -1
    · simp [h1]
    · by_cases h2 : n = iv <;> simp [h1, h2]
theorem c_wayAt {p : Nat} {F H : Nat → Int32} (h : fdAt D p F H) (iv : Int32) : px_ex px_tab (d + 3) 106 [.ref (58), .ref (111 + p), .int (iv)] (hp (M) (J) (R) (c) (e) nL xs (D)) = some (some (.int (wy (pl (M 58 0) (M 58 1) (F 1) (F 2)) 1 iv 5 0 0)), (hp (M) (J) (R) (c) (e) nL xs (D))) := by
  rw [xX9_wayAt, eX9_wayAt_0]
  exact c_wayAt_l _ _ _ _ _ _ _ _ _ h iv 5 0 0 rfl
/-- the model -/
theorem m_dn (v1 v3 : Int32) : ∀ (k : Nat) (v : Int32) (o : Option Value), k < 2 ^ 31 → px_run (px_mk (kX12_hasStood (px_ex px_tab d))) 6 ([some (.ref (67)), some (.int (v1)), o, some (.int (v3)), some (.int (nI k)), some (.int (v))], [], (hp (M) (J) (R) (c) (e) nL xs (D))) = px_run (px_mk (kX12_hasStood (px_ex px_tab d))) 33 ([some (.ref (67)), some (.int (v1)), none, some (.int (v3)), some (.int (0)), some (.int (v + nI (dn (M 67 48) k)))], [], (hp (M) (J) (R) (c) (e) nL xs (D)))
  | 0, v, o, _ => by
    rw [eX12_hasStood_6]
    simp (disch := omega) only [px_bd_s, px_psh_s, px_psh_n, px_vb_s, px_ib_s, px_wb_s, px_bo_s, px_bo_n, Bool.cond_decide, cond_true, cond_false, ite_not, li_le, li_lt, il_le, il_lt, il_eq, li_eq, nI_leI, nI_ltI, nI_eq, px_inbT, nI_clamp, nI_1, pk_m1, if_pos, if_neg]
    unfold dn
    rw [nI_0, Int32.add_zero]
  | k + 1, v, o, hk => by
    rw [eX12_hasStood_6]
    unfold dn
    by_cases hb : (M 67 48 >>> (nI (k + 1) &&& 31)) &&& 1 = 1
    · simp (disch := omega) only [px_bd_s, px_psh_s, px_psh_n, px_vb_s, px_ib_s, px_wb_s, px_bo_s, px_bo_n, Bool.cond_decide, cond_true, cond_false, ite_not, li_le, li_lt, il_le, il_lt, il_eq, li_eq, nI_leI, nI_ltI, nI_eq, px_inbT, nI_clamp, nI_1, pk_m1, if_pos, if_neg, hb]
      rw [m_dn v1 v3 k (v + 1) none (by omega), nI_succ, Int32.add_assoc, Int32.add_comm 1]
    · simp (disch := omega) only [px_bd_s, px_psh_s, px_psh_n, px_vb_s, px_ib_s, px_wb_s, px_bo_s, px_bo_n, Bool.cond_decide, cond_true, cond_false, ite_not, li_le, li_lt, il_le, il_lt, il_eq, li_eq, nI_leI, nI_ltI, nI_eq, px_inbT, nI_clamp, nI_1, pk_m1, if_pos, if_neg, hb]
      rw [nI_0, Int32.add_zero, eX12_hasStood_33, eX12_hasStood_33]
theorem m_hasStood {f k j : Nat} (hf : f < 20) (hk : k < 2 ^ 31) (hj : j < 10) : px_ex px_tab (d + 1) 246 [.ref (67), .int (nI f), .int (nI k), .int (nI j)] (hp (M) (J) (R) (c) (e) nL xs (D)) = some (some (.int (if pl (M 67 48) (M 67 49) (M 78 f) (M 79 f) k = nI j then 1 else 0)), (hp (M) (J) (R) (c) (e) nL xs (D))) := by
  rw [xX12_hasStood, eX12_hasStood_0, m_dn _ _ _ _ _ _ _ _ _ _ _ _ _ _ hk, Int32.zero_add]
  simp (disch := omega) only [px_bd_s, px_psh_s, px_psh_n, px_vb_s, px_ib_s, px_wb_s, px_bo_s, px_bo_n, Bool.cond_decide, cond_true, cond_false, ite_not, li_le, li_lt, il_le, il_lt, il_eq, li_eq, nI_leI, nI_ltI, nI_eq, px_inbT, nI_clamp, nI_1, pk_m1, if_pos, if_neg, eX12_hasStood_33, eX12_hasStood_79, eX12_hasStood_64, eX12_hasStood_66, eX12_hasStood_80]
  have hp := pl_iff (h := M 67 48) (ro := M 67 49) (sq := M 78 f) (la := M 79 f) (k := k) hj
  by_cases h1 : nI j + nI (dn (M 67 48) k) * M 67 49 = M 78 f - M 78 f / 10 * 10
  · by_cases h3 : nI (dn (M 67 48) k) ≤ 3
    · by_cases h2 : nI (dn (M 67 48) k) = M 79 f
      · rw [if_pos h3] at hp
        simp [h1, h3, h2, hp.mp ⟨h1, h2⟩]
      · rw [if_pos h3] at hp
        simp [h1, h3, h2, fun q => h2 (hp.mpr q).2]
    · by_cases h2 : 3 = M 79 f
      · rw [if_neg h3] at hp
        simp [h1, h3, ← h2, hp.mp ⟨h1, h2⟩]
      · rw [if_neg h3] at hp
        simp [h1, h3, h2, fun q => h2 (hp.mpr q).2]
  · simp [h1, fun q => h1 (hp.mpr q).1]
theorem m_way_in {f k : Nat} (hf : f < 20) (hk : k < 5) (iv tl : Int32) : ∀ (g j : Nat) (n : Int32), j + g = 10 → px_run (px_mk (kX12_ways (px_ex px_tab (d + 1)))) 15 ([some (.ref 67), some (.int (nI f)), some (.int iv), some (.int tl), some (.int n), some (.int (nI k)), some (.int (nI j))], [], (hp M J R c e nL xs D)) =
    if ∃ q, j ≤ q ∧ q < 10 ∧ pl (M 67 48) (M 67 49) (M 78 f) (M 79 f) k = nI q then (if ¬ tl = 0 ∧ n = iv then some (some (.int (10 * nI k + pl (M 67 48) (M 67 49) (M 78 f) (M 79 f) k)), (hp (M) (J) (R) (c) (e) nL xs (D))) else px_run (px_mk (kX12_ways (px_ex px_tab (d + 1)))) 6 ([some (.ref 67), some (.int (nI f)), some (.int iv), some (.int tl), some (.int (n + 1)), some (.int (nI (k + 1))), none], [], (hp M J R c e nL xs D)))
    else px_run (px_mk (kX12_ways (px_ex px_tab (d + 1)))) 6 ([some (.ref 67), some (.int (nI f)), some (.int iv), some (.int tl), some (.int n), some (.int (nI (k + 1))), none], [], (hp M J R c e nL xs D))
  | 0, j, n, hj => by
    rw [eX12_ways_15]
    simp (disch := omega) only [px_bd_s, px_psh_s, px_psh_n, px_vb_s, px_ib_s, px_wb_s, px_bo_s, px_bo_n, Bool.cond_decide, cond_true, cond_false, ite_not, li_le, li_lt, il_le, il_lt, il_eq, li_eq, nI_leI, nI_ltI, nI_eq, px_inbT, nI_clamp, nI_1, pk_m1, if_pos, if_neg, eX12_ways_62]
    rw [if_neg]
    rintro ⟨q, h1, h2, _⟩
    omega
  | g + 1, j, n, hj => by
    rw [eX12_ways_15]
    simp (disch := omega) only [px_bd_s, px_psh_s, px_psh_n, px_vb_s, px_ib_s, px_wb_s, px_bo_s, px_bo_n, Bool.cond_decide, cond_true, cond_false, ite_not, li_le, li_lt, il_le, il_lt, il_eq, li_eq, nI_leI, nI_ltI, nI_eq, px_inbT, nI_clamp, nI_1, pk_m1, if_pos, if_neg, m_hasStood _ _ _ _ _ _ _ _ _ hf, eX12_ways_15_8]
    by_cases h1 : pl (M 67 48) (M 67 49) (M 78 f) (M 79 f) k = nI j
    · rw [if_pos h1, if_neg (by decide), if_pos ⟨j, Nat.le_refl _, by omega, h1⟩]
      have hn : ¬ ∃ q, j + 1 ≤ q ∧ q < 10 ∧ pl (M 67 48) (M 67 49) (M 78 f) (M 79 f) k = nI q := by
        rintro ⟨q, h2, h3, h4⟩
        rw [h1, nI_eq (by omega) (by omega)] at h4
        omega
      simp (disch := omega) only [eX12_ways_53, eX12_ways_56, nI_1, m_way_in hf hk iv tl g, if_neg hn]
      by_cases h5 : tl = 0
      · simp [h5]
      · by_cases h6 : n = iv <;> simp [h5, h6, h1]
    · have he : (∃ q, j ≤ q ∧ q < 10 ∧ pl (M 67 48) (M 67 49) (M 78 f) (M 79 f) k = nI q) ↔ ∃ q, j + 1 ≤ q ∧ q < 10 ∧ pl (M 67 48) (M 67 49) (M 78 f) (M 79 f) k = nI q := by
        constructor
        · rintro ⟨q, h2, h3, h4⟩
          refine ⟨q, ?_, h3, h4⟩
          rcases Nat.lt_or_ge j q with h5 | h5
          · exact h5
          · exact absurd (by rw [show j = q from by omega]; exact h4) h1
        · rintro ⟨q, h2, h3, h4⟩
          exact ⟨q, by omega, h3, h4⟩
      rw [if_neg h1]
      simp (disch := omega) only [eX12_ways_56, nI_1, m_way_in hf hk iv tl g, he, if_true]
theorem m_way_l {f : Nat} (hf : f < 20) (iv tl : Int32) : ∀ (g k : Nat) (n : Int32), k + g = 5 → px_run (px_mk (kX12_ways (px_ex px_tab (d + 1)))) 6 ([some (.ref 67), some (.int (nI f)), some (.int iv), some (.int tl), some (.int n), some (.int (nI k)), none], [], (hp M J R c e nL xs D)) = some (some (.int (wy (pl (M 67 48) (M 67 49) (M 78 f) (M 79 f)) tl iv g k n)), (hp (M) (J) (R) (c) (e) nL xs (D)))
  | 0, k, n, hk => by
    rw [eX12_ways_6]
    simp (disch := omega) only [px_bd_s, px_psh_s, px_psh_n, px_vb_s, px_ib_s, px_wb_s, px_bo_s, px_bo_n, Bool.cond_decide, cond_true, cond_false, ite_not, li_le, li_lt, il_le, il_lt, il_eq, li_eq, nI_leI, nI_ltI, nI_eq, px_inbT, nI_clamp, nI_1, pk_m1, if_pos, if_neg, eX12_ways_68, eX12_ways_76, eX12_ways_78]
    unfold wy
    by_cases h5 : tl = 0 <;> simp [h5]
  | g + 1, k, n, hk => by
    rw [eX12_ways_6]
    have hin := m_way_in d M J R c e nL xs D hf (show k < 5 by omega) iv tl 10 0 n rfl
    simp (disch := omega) only [px_bd_s, px_psh_s, px_psh_n, px_vb_s, px_ib_s, px_wb_s, px_bo_s, px_bo_n, Bool.cond_decide, cond_true, cond_false, ite_not, li_le, li_lt, il_le, il_lt, il_eq, li_eq, nI_leI, nI_ltI, nI_eq, px_inbT, nI_clamp, nI_1, pk_m1, if_pos, if_neg]
    rw [show (0 : Int32) = nI 0 from rfl, hin, m_way_l hf iv tl g (k + 1) n (by omega), m_way_l hf iv tl g (k + 1) (n + 1) (by omega)]
    unfold wy
    rcases pl_or (M 67 48) (M 67 49) (M 78 f) (M 79 f) k with h1 | ⟨q, hq, h1⟩
    · rw [if_pos h1, if_neg]
      rintro ⟨q, _, h3, h4⟩
      rw [h1] at h4
      exact nI_n1' (by omega) h4
    · rw [if_pos ⟨q, Nat.zero_le _, hq, h1⟩, if_neg (by rw [h1]; exact nI_n1 (by omega))]
      split <;> rfl
theorem m_ways {f : Nat} (hf : f < 20) (iv tl : Int32) : px_ex px_tab (d + 2) 247 [.ref (67), .int (nI f), .int (iv), .int (tl)] (hp (M) (J) (R) (c) (e) nL xs (D)) = some (some (.int (wy (pl (M 67 48) (M 67 49) (M 78 f) (M 79 f)) tl iv 5 0 0)), (hp (M) (J) (R) (c) (e) nL xs (D))) := by
  rw [xX12_ways, eX12_ways_0]
  exact m_way_l _ _ _ _ _ _ _ _ _ hf iv tl 5 0 0 rfl
/-- finding a find -/
theorem c_findAt_y {n : Nat} {P : Nat → Nat} (hn : n ≤ 20) (h28 : M 28 0 = nI n) (i : Nat) (hi : i < n) (hr : R 29 i = some (111 + P i)) : px_ex px_tab (d + 1) 111 [.ref (28), .int (nI i)] (hp (M) (J) (R) (c) (e) nL xs (D)) = some (some (.ref (111 + P i)), (hp (M) (J) (R) (c) (e) nL xs (D))) := by
  rw [xX10_findAt]
  simp (disch := omega) only [px_bd_s, px_psh_s, px_psh_n, px_vb_s, px_ib_s, px_wb_s, px_bo_s, px_bo_n, Bool.cond_decide, cond_true, cond_false, ite_not, li_le, li_lt, il_le, il_lt, il_eq, li_eq, nI_leI, nI_ltI, nI_eq, px_inbT, nI_clamp, nI_1, pk_m1, if_pos, if_neg, eX10_findAt_0, eX10_findAt_21, eX10_findAt_22, eX10_findAt_22_b, h28, hr]
theorem c_findAt_n {n : Nat} (h28 : M 28 0 = nI n) (v : Int32) (hv : v < 0 ∨ nI n ≤ v) : px_ex px_tab (d + 1) 111 [.ref (28), .int (v)] (hp (M) (J) (R) (c) (e) nL xs (D)) = some (some (.null), (hp (M) (J) (R) (c) (e) nL xs (D))) := by
  rw [xX10_findAt]
  rcases hv with hv | hv
  · simp [eX10_findAt_0, eX10_findAt_21, eX10_findAt_22, eX10_findAt_22_b, h28, hv]
  · by_cases h0 : v < 0 <;> simp [eX10_findAt_0, eX10_findAt_21, eX10_findAt_22, eX10_findAt_22_b, h28, hv, h0]
theorem m_isFind (v : Int32) : px_ex px_tab (d + 2) 167 [.ref (67), .int (v)] (hp (M) (J) (R) (c) (e) nL xs (D)) = some (some (.int (px_in v 0 (M 67 13 - 1))), (hp (M) (J) (R) (c) (e) nL xs (D))) := by
  rw [xX12_isFind]
  simp only [px_bd_s, px_psh_s, px_psh_n, px_vb_s, px_ib_s, px_wb_s, px_bo_s, px_bo_n, Bool.cond_decide, cond_true, cond_false, ite_not, eX12_isFind_0, eX12_isFind_0_7, c_in]
  unfold px_in
  split <;> simp
theorem c_stood_y {n : Nat} {P : Nat → Nat} (hn : n ≤ 20) (h28 : M 28 0 = nI n) (i : Nat) (hi : i < n) (hr : R 29 i = some (111 + P i)) {F H : Nat → Int32} (h : fdAt D (P i) F H) : px_ex px_tab (d + 4) 157 [.ref (13), .int (nI i)] (hp (M) (J) (R) (c) (e) nL xs (D)) = some (some (.int (wy (pl (M 58 0) (M 58 1) (F 1) (F 2)) 0 0 5 0 0)), (hp (M) (J) (R) (c) (e) nL xs (D))) := by
  rw [xX11_stood]
  simp only [px_bd_s, px_psh_s, px_psh_n, px_vb_s, px_ib_s, px_wb_s, px_bo_s, px_bo_n, Bool.cond_decide, cond_true, cond_false, ite_not, eX11_stood_0, eX11_stood_0_4, eX11_stood_0_4_b, eX11_stood_18_4, eX11_stood_18, eX11_stood_26, c_findAt_y _ _ _ _ _ _ _ _ _ hn h28 i hi hr, c_ways _ _ _ _ _ _ _ _ _ h]
theorem c_stood_n {n : Nat} (h28 : M 28 0 = nI n) (v : Int32) (hv : v < 0 ∨ nI n ≤ v) : px_ex px_tab (d + 4) 157 [.ref (13), .int (v)] (hp (M) (J) (R) (c) (e) nL xs (D)) = some (some (.int (-2)), (hp (M) (J) (R) (c) (e) nL xs (D))) := by
  rw [xX11_stood]
  simp only [px_bd_s, px_psh_s, px_psh_n, px_vb_s, px_ib_s, px_wb_s, px_bo_s, px_bo_n, Bool.cond_decide, cond_true, cond_false, ite_not, eX11_stood_0, eX11_stood_0_4, eX11_stood_0_4_b, eX11_stood_18_4, eX11_stood_18, eX11_stood_26, c_findAt_n _ _ _ _ _ _ _ _ _ h28 v hv]
theorem c_stoodAt_y {n : Nat} {P : Nat → Nat} (hn : n ≤ 20) (h28 : M 28 0 = nI n) (i : Nat) (hi : i < n) (hr : R 29 i = some (111 + P i)) {F H : Nat → Int32} (h : fdAt D (P i) F H) (iv : Int32) : px_ex px_tab (d + 4) 158 [.ref (13), .int (nI i), .int (iv)] (hp (M) (J) (R) (c) (e) nL xs (D)) = some (some (.int (wy (pl (M 58 0) (M 58 1) (F 1) (F 2)) 1 iv 5 0 0)), (hp (M) (J) (R) (c) (e) nL xs (D))) := by
  rw [xX11_stoodAt]
  simp only [px_bd_s, px_psh_s, px_psh_n, px_vb_s, px_ib_s, px_wb_s, px_bo_s, px_bo_n, Bool.cond_decide, cond_true, cond_false, ite_not, eX11_stoodAt_0, eX11_stoodAt_0_4, eX11_stoodAt_0_4_b, eX11_stoodAt_18_5, eX11_stoodAt_18, eX11_stoodAt_27, c_findAt_y _ _ _ _ _ _ _ _ _ hn h28 i hi hr, c_wayAt _ _ _ _ _ _ _ _ _ h]
theorem c_stoodAt_n {n : Nat} (h28 : M 28 0 = nI n) (v iv : Int32) (hv : v < 0 ∨ nI n ≤ v) : px_ex px_tab (d + 4) 158 [.ref (13), .int (v), .int (iv)] (hp (M) (J) (R) (c) (e) nL xs (D)) = some (some (.int (-2)), (hp (M) (J) (R) (c) (e) nL xs (D))) := by
  rw [xX11_stoodAt]
  simp only [px_bd_s, px_psh_s, px_psh_n, px_vb_s, px_ib_s, px_wb_s, px_bo_s, px_bo_n, Bool.cond_decide, cond_true, cond_false, ite_not, eX11_stoodAt_0, eX11_stoodAt_0_4, eX11_stoodAt_0_4_b, eX11_stoodAt_18_5, eX11_stoodAt_18, eX11_stoodAt_27, c_findAt_n _ _ _ _ _ _ _ _ _ h28 v hv]
theorem m_stood_y {n : Nat} (hn : n ≤ 20) (h67 : M 67 13 = nI n) (i : Nat) (hi : i < n) : px_ex px_tab (d + 3) 248 [.ref (67), .int (nI i)] (hp (M) (J) (R) (c) (e) nL xs (D)) = some (some (.int (wy (pl (M 67 48) (M 67 49) (M 78 i) (M 79 i)) 0 0 5 0 0)), (hp (M) (J) (R) (c) (e) nL xs (D))) := by
  rw [xX12_stood]
  simp (disch := omega) only [px_bd_s, px_psh_s, px_psh_n, px_vb_s, px_ib_s, px_wb_s, px_bo_s, px_bo_n, Bool.cond_decide, cond_true, cond_false, ite_not, li_le, li_lt, il_le, il_lt, il_eq, li_eq, nI_leI, nI_ltI, nI_eq, px_inbT, nI_clamp, nI_1, pk_m1, if_pos, if_neg, eX12_stood_0, eX12_stood_0_3, eX12_stood_18, eX12_stood_0_9, eX12_stood_20, m_isFind, h67, in_y hi, m_ways]
  simp
theorem m_stood_n {n : Nat} (hn : n ≤ 20) (h67 : M 67 13 = nI n) (v : Int32) (hv : v < 0 ∨ nI n ≤ v) : px_ex px_tab (d + 3) 248 [.ref (67), .int (v)] (hp (M) (J) (R) (c) (e) nL xs (D)) = some (some (.int (-2)), (hp (M) (J) (R) (c) (e) nL xs (D))) := by
  rw [xX12_stood]
  simp (disch := omega) only [px_bd_s, px_psh_s, px_psh_n, px_vb_s, px_ib_s, px_wb_s, px_bo_s, px_bo_n, Bool.cond_decide, cond_true, cond_false, ite_not, li_le, li_lt, il_le, il_lt, il_eq, li_eq, nI_leI, nI_ltI, nI_eq, px_inbT, nI_clamp, nI_1, pk_m1, if_pos, if_neg, eX12_stood_0, eX12_stood_0_3, eX12_stood_18, eX12_stood_0_9, eX12_stood_20, m_isFind, h67, in_n (n := n) (by omega) hv]
  simp
theorem m_stoodAt_y {n : Nat} (hn : n ≤ 20) (h67 : M 67 13 = nI n) (i : Nat) (hi : i < n) (iv : Int32) : px_ex px_tab (d + 3) 249 [.ref (67), .int (nI i), .int (iv)] (hp (M) (J) (R) (c) (e) nL xs (D)) = some (some (.int (wy (pl (M 67 48) (M 67 49) (M 78 i) (M 79 i)) 1 iv 5 0 0)), (hp (M) (J) (R) (c) (e) nL xs (D))) := by
  rw [xX12_stoodAt]
  simp (disch := omega) only [px_bd_s, px_psh_s, px_psh_n, px_vb_s, px_ib_s, px_wb_s, px_bo_s, px_bo_n, Bool.cond_decide, cond_true, cond_false, ite_not, li_le, li_lt, il_le, il_lt, il_eq, li_eq, nI_leI, nI_ltI, nI_eq, px_inbT, nI_clamp, nI_1, pk_m1, if_pos, if_neg, eX12_stoodAt_0, eX12_stoodAt_0_3, eX12_stoodAt_18, eX12_stoodAt_0_9, eX12_stoodAt_20, m_isFind, h67, in_y hi, m_ways]
  simp
theorem m_stoodAt_n {n : Nat} (hn : n ≤ 20) (h67 : M 67 13 = nI n) (v iv : Int32) (hv : v < 0 ∨ nI n ≤ v) : px_ex px_tab (d + 3) 249 [.ref (67), .int (v), .int (iv)] (hp (M) (J) (R) (c) (e) nL xs (D)) = some (some (.int (-2)), (hp (M) (J) (R) (c) (e) nL xs (D))) := by
  rw [xX12_stoodAt]
  simp (disch := omega) only [px_bd_s, px_psh_s, px_psh_n, px_vb_s, px_ib_s, px_wb_s, px_bo_s, px_bo_n, Bool.cond_decide, cond_true, cond_false, ite_not, li_le, li_lt, il_le, il_lt, il_eq, li_eq, nI_leI, nI_ltI, nI_eq, px_inbT, nI_clamp, nI_1, pk_m1, if_pos, if_neg, eX12_stoodAt_0, eX12_stoodAt_0_3, eX12_stoodAt_18, eX12_stoodAt_0_9, eX12_stoodAt_20, m_isFind, h67, in_n (n := n) (by omega) hv]
  simp
end S22
