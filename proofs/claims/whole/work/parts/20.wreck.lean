/-! PART 20: helpers; HATCHES and ROLL, class and model -/
theorem px_bd_s (v : Option Value) (G : px_H) (k : Option Value → px_H → Option px_R) : px_bd (some (v, G)) k = k v G := rfl
theorem px_psh_s (w : Value) (S : List Value) : px_psh (some w) S = w :: S := rfl
theorem px_psh_n (S : List Value) : px_psh none S = S := rfl
def px_in (v lo hi : Int32) : Int32 := if lo ≤ v ∧ v ≤ hi then 1 else 0
section S20
variable (d : Nat) (M : Nat → Nat → Int32) (J : Nat → Nat → Int64) (R : Nat → Nat → Option Nat) (c e nL : Nat) (xs : Nat → Int32) (D : px_H)
theorem c_in (v lo hi : Int32) : px_ex px_tab (d + 1) 165 [.int v, .int lo, .int hi] (hp M J R c e nL xs D) = some (some (.int (px_in v lo hi)), hp M J R c e nL xs D) := by
  rw [xX12_in]
  simp only [eX12_in_0, eX12_in_14, eX12_in_15, Bool.cond_decide]
  unfold px_in
  by_cases h1 : v < lo
  · have h2 : ¬ lo ≤ v := Int32.not_le.mpr h1
    simp [h1, h2]
  · have h2 : lo ≤ v := Int32.not_lt.mp h1
    by_cases h3 : hi < v
    · have h4 : ¬ v ≤ hi := Int32.not_le.mpr h3
      simp [h1, h3, h4]
    · have h4 : v ≤ hi := Int32.not_lt.mp h3
      simp [h1, h2, h3, h4]
theorem px_in_0 {v lo hi : Int32} : px_in v lo hi = 0 ↔ ¬ (lo ≤ v ∧ v ≤ hi) := by
  unfold px_in
  by_cases h : lo ≤ v ∧ v ≤ hi
  · rw [if_pos h]; exact ⟨fun q => absurd q (by decide), fun q => absurd h q⟩
  · rw [if_neg h]; exact ⟨fun _ => h, fun _ => rfl⟩
/-- the class's hatches(bits) -/
theorem c_hatches (b : Int32) : px_ex px_tab (d + 2) 155 [.ref 13, .int b] (hp M J R c e nL xs D) = if b &&& (-31) = 0 then some (some (.int (M 58 0)), hp (px_uR M 58 (upd (M 58) 0 b)) J R c e nL xs D) else some (some (.int (-2)), hp M J R c e nL xs D) := by
  rw [xX11_hatches]
  simp only [eX11_hatches_0, xX9_openHatches, eX9_openHatches_0, eX9_openHatches_10, Bool.cond_decide]
  split
  · simp only [px_bd_s, px_psh_s, eX11_hatches_0_4]
  · simp only [px_bd_s, px_psh_s, eX11_hatches_0_4]
/-- the model's -/
theorem m_hatches (b : Int32) : px_ex px_tab (d + 2) 244 [.ref 67, .int b] (hp M J R c e nL xs D) = if (0 ≤ b ∧ b ≤ 30) ∧ b - b / 2 * 2 = 0 then some (some (.int (M 67 48)), hp (px_uR M 67 (upd (M 67) 48 b)) J R c e nL xs D) else some (some (.int (-2)), hp M J R c e nL xs D) := by
  rw [xX12_hatches]
  simp only [eX12_hatches_0, c_in, px_bd_s, px_psh_s, eX12_hatches_0_4, eX12_hatches_16, eX12_hatches_19, Bool.cond_decide, px_in_0]
  by_cases h1 : 0 ≤ b ∧ b ≤ 30
  · by_cases h2 : b - b / 2 * 2 = 0 <;> simp [h1, h2]
  · simp [h1]
theorem c_roll (b : Int32) : px_ex px_tab (d + 2) 156 [.ref 13, .int b] (hp M J R c e nL xs D) = if -9 ≤ b ∧ b ≤ 9 then some (some (.int (M 58 1)), hp (px_uR M 58 (upd (M 58) 1 b)) J R c e nL xs D) else some (some (.int (-2)), hp M J R c e nL xs D) := by
  rw [xX11_roll]
  simp only [eX11_roll_0, xX9_changeRoll, eX9_changeRoll_0, eX9_changeRoll_12, eX9_changeRoll_15, Bool.cond_decide]
  by_cases h1 : b < -9
  · have h2 : ¬ -9 ≤ b := Int32.not_le.mpr h1
    simp [h1, h2, px_bd_s, px_psh_s, eX11_roll_0_4]
  · have h2 : -9 ≤ b := Int32.not_lt.mp h1
    by_cases h3 : b ≤ 9 <;> simp [h1, h2, h3, px_bd_s, px_psh_s, eX11_roll_0_4]
theorem m_roll (b : Int32) : px_ex px_tab (d + 2) 245 [.ref 67, .int b] (hp M J R c e nL xs D) = if -9 ≤ b ∧ b ≤ 9 then some (some (.int (M 67 49)), hp (px_uR M 67 (upd (M 67) 49 b)) J R c e nL xs D) else some (some (.int (-2)), hp M J R c e nL xs D) := by
  rw [xX12_roll]
  simp only [eX12_roll_0, c_in, px_bd_s, px_psh_s, eX12_roll_0_4, eX12_roll_14, Bool.cond_decide, px_in_0]
  by_cases h1 : -9 ≤ b ∧ b ≤ 9 <;> simp [h1]
end S20
theorem px_hat_n : ∀ n : Nat, n < 31 → (nI n &&& (-31) = 0 ↔ (0 ≤ nI n ∧ nI n ≤ 30) ∧ nI n - nI n / 2 * 2 = 0) := by decide
theorem px_hat_b (x : BitVec 32) (h : x &&& (-31#32) = 0#32) : x = x &&& 30#32 := by
  have hm : ∀ i, i < 32 → (30#32).getLsbD i = !((-31#32).getLsbD i) := by decide
  apply BitVec.eq_of_getLsbD_eq
  intro i hi
  have h1 := congrArg (fun z : BitVec 32 => z.getLsbD i) h
  try dsimp only at h1
  rw [BitVec.getLsbD_and, BitVec.getLsbD_zero] at h1
  rw [BitVec.getLsbD_and, hm i hi]
  cases hx : x.getLsbD i <;> cases hy : (-31#32).getLsbD i <;> rw [hx, hy] at h1 <;> first | rfl | cases h1
theorem px_hat (b : Int32) : b &&& (-31) = 0 ↔ (0 ≤ b ∧ b ≤ 30) ∧ b - b / 2 * 2 = 0 := by
  have key : (∃ n : Nat, n < 31 ∧ b = nI n) → (b &&& (-31) = 0 ↔ (0 ≤ b ∧ b ≤ 30) ∧ b - b / 2 * 2 = 0) := by
    rintro ⟨n, hn, rfl⟩
    exact px_hat_n n hn
  constructor
  · intro h
    refine (key ?_).mp h
    have h1 : b.toBitVec &&& (-31#32) = 0#32 := by
      have := congrArg Int32.toBitVec h
      simpa using this
    have h2 := px_hat_b _ h1
    have h3 : b.toBitVec.toNat ≤ 30 := by
      rw [h2, BitVec.toNat_and]
      exact Nat.and_le_right
    refine ⟨b.toBitVec.toNat, by omega, ?_⟩
    apply Int32.toBitVec_inj.mp
    show b.toBitVec = BitVec.ofNat 32 b.toBitVec.toNat
    rw [BitVec.ofNat_toNat, BitVec.setWidth_eq]
  · intro h
    obtain ⟨j, hj, rfl⟩ := nI_of2 (x := b) (M := 30) (n := 30) (by decide) (Int32.not_lt.mpr h.1.1) h.1.2
    exact (px_hat_n j (by omega)).mpr h
