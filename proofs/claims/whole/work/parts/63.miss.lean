/-! PART 63: the model's miss -/
/-- the model's places -/
def IMp (s : Sv) (p : Nat → Int × Int) (M : Nat → Nat → Int32) : Prop := ∀ i, i < Sm s → M 70 i = iI (p i).1 ∧ M 71 i = iI (p i).2
def rng (s : Sv) (B : Nat) (p : Nat → Int × Int) : Prop := ∀ i, i < Sm s → (p i).1.natAbs ≤ B ∧ (p i).2.natAbs ≤ B
section S63
variable (d : Nat) (M : Nat → Nat → Int32) (J : Nat → Nat → Int64) (R : Nat → Nat → Option Nat) (c e nL : Nat) (xs : Nat → Int32) (D : px_H)
theorem m_miss {s : Sv} {p : Nat → Int × Int} (hs : ISt s) (hI : IMt s M) (hp' : IMp s p M) (hr : rng s 9092 p) {k : Nat} (hk : k < St s) : px_ex px_tab (d + 2) 174 [Value.ref (67), Value.int (nI k)] (hp (M) (J) (R) (c) (e) nL xs (D)) = some (some (Value.int (iI (sv_mis s p k))), (hp (M) (J) (R) (c) (e) nL xs (D))) := by
  have hm := hs.1
  have ht := hs.2.1
  obtain ⟨t1, t2, t3, t4, t5⟩ := hs.2.2 k hk
  obtain ⟨i1, i2, i3⟩ := hI.2.2 k hk
  obtain ⟨a1, a2⟩ := hp' _ t1
  obtain ⟨b1, b2⟩ := hp' _ t2
  obtain ⟨r1, r2⟩ := hr _ t1
  obtain ⟨r3, r4⟩ := hr _ t2
  have hb := sq2_b (u := (p (Sa s k)).1 - (p (Sb s k)).1) (v := (p (Sa s k)).2 - (p (Sb s k)).2) (by omega) (by omega)
  rw [xX12_miss]
  simp (disch := omega) only [px_bd_s, px_psh_s, px_psh_n, px_vb_s, px_ib_s, px_wb_s, px_bo_s, px_bo_n, Bool.cond_decide, cond_true, cond_false, ite_not, Bool.and_true, if_true, if_false, not_true_eq_false, not_false_eq_true, i10, eq_self, decide_true, decide_false, Bool.or_true, Bool.true_or, Bool.or_false, Bool.false_or, eX12_miss_0, px_inbT, nI_clamp, i1, i2, a1, a2, b1, b2, iI_sub, sq2_I, m_root]
  simp (disch := omega) only [px_bd_s, px_psh_s, px_psh_n, px_vb_s, px_ib_s, px_wb_s, px_bo_s, px_bo_n, Bool.cond_decide, cond_true, cond_false, ite_not, Bool.and_true, if_true, if_false, not_true_eq_false, not_false_eq_true, i10, eq_self, decide_true, decide_false, Bool.or_true, Bool.true_or, Bool.or_false, Bool.false_or, eX12_miss_0, eX12_miss_0_40, px_inbT, nI_clamp, i3]
  rw [← iI_nat (rt _), ← iI_nat (Sl s k), iI_sub]
  rfl
end S63
