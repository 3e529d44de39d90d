/-! PART 54: FEED -/
theorem bv_sh (x : BitVec 64) {s : Nat} (hs : s ≤ 56) : (x.ushiftRight s) &&& 255#64 = (x.sshiftRight s) &&& 255#64 := by
  apply BitVec.eq_of_getLsbD_eq
  intro i hi
  rw [BitVec.getLsbD_and, BitVec.getLsbD_and]
  have h255 : ∀ i, i < 64 → (255#64).getLsbD i = decide (i < 8) := by decide
  rw [h255 i hi]
  by_cases h8 : i < 8
  · rw [show (x.ushiftRight s).getLsbD i = x.getLsbD (s + i) from BitVec.getLsbD_ushiftRight x s i, BitVec.getLsbD_sshiftRight]
    rw [decide_eq_false (show ¬ 64 ≤ i by omega), if_pos (show s + i < 64 by omega)]
    rfl
  · rw [decide_eq_false h8, Bool.and_false, Bool.and_false]
theorem fd_sh (v : Int64) : ∀ i, i < 8 → (Int64.toUInt64 v >>> (Int64.toUInt64 (Int32.toInt64 (nI (8 * i))) &&& Int64.toUInt64 63)).toInt64 &&& 255 = (v >>> (Int32.toInt64 (nI (8 * i)) &&& 63)) &&& 255 := by
  intro i hi
  apply Int64.toBitVec_inj.mp
  rcases (by omega : i = 0 ∨ i = 1 ∨ i = 2 ∨ i = 3 ∨ i = 4 ∨ i = 5 ∨ i = 6 ∨ i = 7) with rfl | rfl | rfl | rfl | rfl | rfl | rfl | rfl
  · exact bv_sh v.toBitVec (s := 0) (by decide)
  · exact bv_sh v.toBitVec (s := 8) (by decide)
  · exact bv_sh v.toBitVec (s := 16) (by decide)
  · exact bv_sh v.toBitVec (s := 24) (by decide)
  · exact bv_sh v.toBitVec (s := 32) (by decide)
  · exact bv_sh v.toBitVec (s := 40) (by decide)
  · exact bv_sh v.toBitVec (s := 48) (by decide)
  · exact bv_sh v.toBitVec (s := 56) (by decide)
theorem byte_n (x : Int64) : ∃ j, j < 256 ∧ Int64.toInt32 (x &&& 255) = nI j := by
  have h1 : (x &&& 255).toBitVec.toNat ≤ 255 := by
    show (x.toBitVec &&& 255#64).toNat ≤ 255
    rw [BitVec.toNat_and]
    exact Nat.and_le_right
  refine ⟨(x &&& 255).toBitVec.toNat, by omega, ?_⟩
  have e : x &&& 255 = lN ((x &&& 255).toBitVec.toNat) := by
    apply Int64.toBitVec_inj.mp
    show (x &&& 255).toBitVec = BitVec.ofNat 64 (x &&& 255).toBitVec.toNat
    rw [BitVec.ofNat_toNat, BitVec.setWidth_eq]
  rw [e, lN_i]
  congr 1
  rw [← e]
/-- the text that was fed -/
def ITx (M : Nat → Nat → Int32) : Prop := ∃ n, n ≤ 160 ∧ M 37 2 = nI n ∧ M 67 37 = nI n ∧ ∀ i, i < n → M 48 i = M 95 i ∧ ∃ j, j < 256 ∧ M 95 i = nI j
theorem ITx.fr {S K : List Nat} {M M' : Nat → Nat → Int32} (hf : frm S K M M') (h37 : M' 37 2 = M 37 2) (hS : ∀ a ∈ [48, 95], a ∉ S) (hK : 37 ∉ K) (h : ITx M) : ITx M' := by
  have e : ∀ a, a ≠ 67 → a ∈ [48, 95] → M' a = M a := fun a h1 h2 => hf.1 a h1 (hS a h2)
  unfold ITx
  rw [e 48 (by decide) (by decide), e 95 (by decide) (by decide), h37, hf.2 37 hK]
  exact h
section S54
variable (d : Nat) (J : Nat → Nat → Int64) (R : Nat → Nat → Option Nat) (nL : Nat) (xs : Nat → Int32) (D : px_H)
theorem c_feed_l_38 {n m : Nat} (hm : m ≤ 8) (hn : n + m ≤ 160) (b : Int64) : ∀ (g k : Nat) (M : Nat → Nat → Int32), M 37 2 = nI (n + k) → k + g = m → ∃ r, px_run (px_mk (kX5_append (px_ex px_tab d))) 32 ([some (.ref 37), some (.int (nI m)), some (.long b), none, some (.int (nI k))], [], hp M J R 38 43 nL xs D) = some (some (Value.int (nI (n + m))), (hp (px_uR (px_uR M 48 r) 37 (upd (M 37) 2 (nI (n + m)))) (J) (R) (38) (43) nL xs (D))) ∧ (∀ i, i < n + k → r i = M 48 i) ∧ ∀ z, k ≤ z → z < m → r (n + z) = (Int64.toInt32 ((b >>> (Int32.toInt64 (nI (8 * z)) &&& 63)) &&& 255))
  | 0, k, M, h2, hk => by
    refine ⟨M 48, ?_, fun _ _ => rfl, fun z h1 h3 => by omega⟩
    rw [eX5_append_38_32, px_uR_id, show k = m from by omega]
    rw [show k = m from by omega] at h2
    rw [← h2, upd_id, px_uR_id]
    simp (disch := omega) only [px_bd_s, px_psh_s, px_psh_n, px_vb_s, px_ib_s, px_wb_s, px_bo_s, px_bo_n, Bool.cond_decide, cond_true, cond_false, ite_not, Bool.and_true, if_true, if_false, not_true_eq_false, not_false_eq_true, i10, eq_self, decide_true, decide_false, Bool.or_true, Bool.true_or, Bool.or_false, Bool.false_or, nI_leI, if_pos, eX5_append_38_75]
  | g + 1, k, M, h2, hk => by
    obtain ⟨r, q1, q2, q3⟩ := c_feed_l_38 hm hn b g (k + 1) (px_uR (px_uR M 48 (upd (M 48) (n + k) (Int64.toInt32 ((b >>> (Int32.toInt64 (nI (8 * k)) &&& 63)) &&& 255)))) 37 (upd (M 37) 2 (nI (n + k + 1)))) (by rfl) (by omega)
    refine ⟨r, ?_, fun i hi => ?_, fun z h1 h3 => ?_⟩
    · rw [px_uR_c] at q1
      have eu : upd ((px_uR (px_uR M 48 (upd (M 48) (n + k) (Int64.toInt32 ((b >>> (Int32.toInt64 (nI (8 * k)) &&& 63)) &&& 255)))) 37 (upd (M 37) 2 (nI (n + k + 1)))) 37) 2 (nI (n + m)) = upd (M 37) 2 (nI (n + m)) := upd_2 _ _ _ _
      rw [eu] at q1
      refine Eq.trans ?_ q1
      rw [eX5_append_38_32, h2]
      simp (disch := omega) only [px_bd_s, px_psh_s, px_psh_n, px_vb_s, px_ib_s, px_wb_s, px_bo_s, px_bo_n, Bool.cond_decide, cond_true, cond_false, ite_not, Bool.and_true, if_true, if_false, not_true_eq_false, not_false_eq_true, i10, eq_self, decide_true, decide_false, Bool.or_true, Bool.true_or, Bool.or_false, Bool.false_or, nI_leI, if_neg, px_inbT, nI_clamp, zq8, fd_sh b k (by omega), nI_1]
    · rw [q2 i (by omega)]
      exact pk_un (by omega)
    · rcases Nat.lt_or_ge k z with w | w
      · exact q3 z w h3
      · rw [show z = k from by omega, q2 (n + k) (by omega)]
        exact pk_us
theorem c_feed_l_43 {n m : Nat} (hm : m ≤ 8) (hn : n + m ≤ 160) (b : Int64) : ∀ (g k : Nat) (M : Nat → Nat → Int32), M 37 2 = nI (n + k) → k + g = m → ∃ r, px_run (px_mk (kX5_append (px_ex px_tab d))) 32 ([some (.ref 37), some (.int (nI m)), some (.long b), none, some (.int (nI k))], [], hp M J R 43 38 nL xs D) = some (some (Value.int (nI (n + m))), (hp (px_uR (px_uR M 48 r) 37 (upd (M 37) 2 (nI (n + m)))) (J) (R) (43) (38) nL xs (D))) ∧ (∀ i, i < n + k → r i = M 48 i) ∧ ∀ z, k ≤ z → z < m → r (n + z) = (Int64.toInt32 ((b >>> (Int32.toInt64 (nI (8 * z)) &&& 63)) &&& 255))
  | 0, k, M, h2, hk => by
    refine ⟨M 48, ?_, fun _ _ => rfl, fun z h1 h3 => by omega⟩
    rw [eX5_append_43_32, px_uR_id, show k = m from by omega]
    rw [show k = m from by omega] at h2
    rw [← h2, upd_id, px_uR_id]
    simp (disch := omega) only [px_bd_s, px_psh_s, px_psh_n, px_vb_s, px_ib_s, px_wb_s, px_bo_s, px_bo_n, Bool.cond_decide, cond_true, cond_false, ite_not, Bool.and_true, if_true, if_false, not_true_eq_false, not_false_eq_true, i10, eq_self, decide_true, decide_false, Bool.or_true, Bool.true_or, Bool.or_false, Bool.false_or, nI_leI, if_pos, eX5_append_43_75]
  | g + 1, k, M, h2, hk => by
    obtain ⟨r, q1, q2, q3⟩ := c_feed_l_43 hm hn b g (k + 1) (px_uR (px_uR M 48 (upd (M 48) (n + k) (Int64.toInt32 ((b >>> (Int32.toInt64 (nI (8 * k)) &&& 63)) &&& 255)))) 37 (upd (M 37) 2 (nI (n + k + 1)))) (by rfl) (by omega)
    refine ⟨r, ?_, fun i hi => ?_, fun z h1 h3 => ?_⟩
    · rw [px_uR_c] at q1
      have eu : upd ((px_uR (px_uR M 48 (upd (M 48) (n + k) (Int64.toInt32 ((b >>> (Int32.toInt64 (nI (8 * k)) &&& 63)) &&& 255)))) 37 (upd (M 37) 2 (nI (n + k + 1)))) 37) 2 (nI (n + m)) = upd (M 37) 2 (nI (n + m)) := upd_2 _ _ _ _
      rw [eu] at q1
      refine Eq.trans ?_ q1
      rw [eX5_append_43_32, h2]
      simp (disch := omega) only [px_bd_s, px_psh_s, px_psh_n, px_vb_s, px_ib_s, px_wb_s, px_bo_s, px_bo_n, Bool.cond_decide, cond_true, cond_false, ite_not, Bool.and_true, if_true, if_false, not_true_eq_false, not_false_eq_true, i10, eq_self, decide_true, decide_false, Bool.or_true, Bool.true_or, Bool.or_false, Bool.false_or, nI_leI, if_neg, px_inbT, nI_clamp, zq8, fd_sh b k (by omega), nI_1]
    · rw [q2 i (by omega)]
      exact pk_un (by omega)
    · rcases Nat.lt_or_ge k z with w | w
      · exact q3 z w h3
      · rw [show z = k from by omega, q2 (n + k) (by omega)]
        exact pk_us
theorem m_feed_l (c e : Nat) {n m : Nat} (hm : m ≤ 8) (hn : n + m ≤ 160) (b : Int64) : ∀ (g k : Nat) (M : Nat → Nat → Int32), M 67 37 = nI (n + k) → k + g = m → ∃ r, px_run (px_mk (kX12_feed (px_ex px_tab d))) 31 ([some (.ref 67), some (.int (nI m)), some (.long b), none, some (.int (nI k))], [], (hp M J R c e nL xs D)) = some (some (Value.int (nI (n + m))), (hp (px_uR (px_uR M 95 r) 67 (upd (M 67) 37 (nI (n + m)))) (J) (R) (c) (e) nL xs (D))) ∧ (∀ i, i < n + k → r i = M 95 i) ∧ ∀ z, k ≤ z → z < m → r (n + z) = (Int64.toInt32 ((b >>> (Int32.toInt64 (nI (8 * z)) &&& 63)) &&& 255))
  | 0, k, M, h2, hk => by
    refine ⟨M 95, ?_, fun _ _ => rfl, fun z h1 h3 => by omega⟩
    rw [eX12_feed_31, px_uR_id, show k = m from by omega]
    rw [show k = m from by omega] at h2
    rw [← h2, upd_id, px_uR_id]
    simp (disch := omega) only [px_bd_s, px_psh_s, px_psh_n, px_vb_s, px_ib_s, px_wb_s, px_bo_s, px_bo_n, Bool.cond_decide, cond_true, cond_false, ite_not, Bool.and_true, if_true, if_false, not_true_eq_false, not_false_eq_true, i10, eq_self, decide_true, decide_false, Bool.or_true, Bool.true_or, Bool.or_false, Bool.false_or, nI_leI, if_pos, eX12_feed_74]
  | g + 1, k, M, h2, hk => by
    obtain ⟨r, q1, q2, q3⟩ := m_feed_l c e hm hn b g (k + 1) (px_uR (px_uR M 95 (upd (M 95) (n + k) (Int64.toInt32 ((b >>> (Int32.toInt64 (nI (8 * k)) &&& 63)) &&& 255)))) 67 (upd (M 67) 37 (nI (n + k + 1)))) (by rfl) (by omega)
    refine ⟨r, ?_, fun i hi => ?_, fun z h1 h3 => ?_⟩
    · rw [px_uR_c] at q1
      have eu : upd ((px_uR (px_uR M 95 (upd (M 95) (n + k) (Int64.toInt32 ((b >>> (Int32.toInt64 (nI (8 * k)) &&& 63)) &&& 255)))) 67 (upd (M 67) 37 (nI (n + k + 1)))) 67) 37 (nI (n + m)) = upd (M 67) 37 (nI (n + m)) := upd_2 _ _ _ _
      rw [eu] at q1
      refine Eq.trans ?_ q1
      rw [eX12_feed_31, h2]
      simp (disch := omega) only [px_bd_s, px_psh_s, px_psh_n, px_vb_s, px_ib_s, px_wb_s, px_bo_s, px_bo_n, Bool.cond_decide, cond_true, cond_false, ite_not, Bool.and_true, if_true, if_false, not_true_eq_false, not_false_eq_true, i10, eq_self, decide_true, decide_false, Bool.or_true, Bool.true_or, Bool.or_false, Bool.false_or, nI_leI, if_neg, px_inbT, nI_clamp, zq8, nI_1]
    · rw [q2 i (by omega)]
      exact pk_un (by omega)
    · rcases Nat.lt_or_ge k z with w | w
      · exact q3 z w h3
      · rw [show z = k from by omega, q2 (n + k) (by omega)]
        exact pk_us
theorem t_feed_38 (M : Nat → Nat → Int32) (hI : ITx M) (v : Int32) (b : Int64) : ∃ w M1 M2, px_ex px_tab (d + 3) 145 [Value.ref (13), Value.int (v), Value.long (b)] (hp (M) (J) (R) (38) (43) nL xs (D)) = some (some (Value.int (w)), (hp (M1) (J) (R) (38) (43) nL xs (D))) ∧ px_ex px_tab (d + 3) 226 [Value.ref (67), Value.int (v), Value.long (b)] (hp (M1) (J) (R) (38) (43) nL xs (D)) = some (some (Value.int (w)), (hp (M2) (J) (R) (38) (43) nL xs (D))) ∧ ITx M2 ∧ frm [37, 48, 95] [37] M M2 := by
  obtain ⟨n, hn, h37, h67, hrow⟩ := hI
  by_cases hv : 1 ≤ v ∧ v ≤ 8
  · obtain ⟨m, hm, rfl⟩ := nI_of2 (x := v) (M := 8) (n := 8) (by decide) (fun q => Int32.not_lt.mpr hv.1 (Int32.lt_of_lt_of_le q (by decide))) hv.2
    by_cases hf : n + m ≤ 160
    · obtain ⟨r, a1, a2, a3⟩ := c_feed_l_38 (d + 1) J R nL xs D hm hf b m 0 M h37 (by omega)
      obtain ⟨r', b1, b2, b3⟩ := m_feed_l (d + 2) J R nL xs D 38 43 hm hf b m 0 (px_uR (px_uR M 48 r) 37 (upd (M 37) 2 (nI (n + m)))) h67 (by omega)
      rw [nI_0] at a1 b1
      refine ⟨nI (n + m), px_uR (px_uR M 48 r) 37 (upd (M 37) 2 (nI (n + m))), px_uR (px_uR (px_uR (px_uR M 48 r) 37 (upd (M 37) 2 (nI (n + m)))) 95 r') 67 (upd (M 67) 37 (nI (n + m))), ?_, ?_, ⟨n + m, hf, rfl, rfl, fun i hi => ?_⟩, ?_⟩
      · rw [xX11_feed]
        simp (disch := omega) only [px_bd_s, px_psh_s, px_psh_n, px_vb_s, px_ib_s, px_wb_s, px_bo_s, px_bo_n, Bool.cond_decide, cond_true, cond_false, ite_not, Bool.and_true, if_true, if_false, not_true_eq_false, not_false_eq_true, i10, eq_self, decide_true, decide_false, Bool.or_true, Bool.true_or, Bool.or_false, Bool.false_or, eX11_feed_0, eX11_feed_0_5, xX5_append, eX5_append_38_0, eX5_append_38_14, eX5_append_38_29, Int32.not_lt.mpr hv.1, hv.2, h37, nI_add, zc160, if_pos hf, a1]
      · have e1 : (px_uR (px_uR M 48 r) 37 (upd (M 37) 2 (nI (n + m)))) 67 37 = nI n := h67
        rw [xX12_feed]
        simp (disch := omega) only [px_bd_s, px_psh_s, px_psh_n, px_vb_s, px_ib_s, px_wb_s, px_bo_s, px_bo_n, Bool.cond_decide, cond_true, cond_false, ite_not, Bool.and_true, if_true, if_false, not_true_eq_false, not_false_eq_true, i10, eq_self, decide_true, decide_false, Bool.or_true, Bool.true_or, Bool.or_false, Bool.false_or, eX12_feed_0, eX12_feed_0_4, eX12_feed_13, eX12_feed_28, c_in, px_in_1 hv, e1, nI_add, zc160, if_pos hf, b1]
        rfl
      · show r i = r' i ∧ ∃ j, j < 256 ∧ r' i = nI j
        rcases Nat.lt_or_ge i n with q | q
        · rw [a2 i (by omega), b2 i (by omega)]
          exact hrow i q
        · obtain ⟨z, rfl⟩ : ∃ z, i = n + z := ⟨i - n, by omega⟩
          rw [a3 z (Nat.zero_le _) (by omega), b3 z (Nat.zero_le _) (by omega)]
          exact ⟨rfl, byte_n _⟩
      · exact ((((frm.rf _ _ _).u 48 _ (by decide) (by decide)).u 37 _ (by decide) (by decide)).u 95 _ (by decide) (by decide)).k 37 _ (by decide)
    · refine ⟨-4, M, M, ?_, ?_, ⟨n, hn, h37, h67, hrow⟩, frm.rf _ _ _⟩
      · rw [xX11_feed]
        simp (disch := omega) only [px_bd_s, px_psh_s, px_psh_n, px_vb_s, px_ib_s, px_wb_s, px_bo_s, px_bo_n, Bool.cond_decide, cond_true, cond_false, ite_not, Bool.and_true, if_true, if_false, not_true_eq_false, not_false_eq_true, i10, eq_self, decide_true, decide_false, Bool.or_true, Bool.true_or, Bool.or_false, Bool.false_or, eX11_feed_0, eX11_feed_0_5, xX5_append, eX5_append_38_0, eX5_append_38_14, Int32.not_lt.mpr hv.1, hv.2, h37, nI_add, zc160, if_neg hf]
      · rw [xX12_feed]
        simp (disch := omega) only [px_bd_s, px_psh_s, px_psh_n, px_vb_s, px_ib_s, px_wb_s, px_bo_s, px_bo_n, Bool.cond_decide, cond_true, cond_false, ite_not, Bool.and_true, if_true, if_false, not_true_eq_false, not_false_eq_true, i10, eq_self, decide_true, decide_false, Bool.or_true, Bool.true_or, Bool.or_false, Bool.false_or, eX12_feed_0, eX12_feed_0_4, eX12_feed_13, c_in, px_in_1 hv, h67, nI_add, zc160, if_neg hf]
  · refine ⟨-2, M, M, ?_, ?_, ⟨n, hn, h37, h67, hrow⟩, frm.rf _ _ _⟩
    · rw [xX11_feed]
      simp only [px_bd_s, px_psh_s, px_psh_n, px_vb_s, px_ib_s, px_wb_s, px_bo_s, px_bo_n, Bool.cond_decide, cond_true, cond_false, ite_not, Bool.and_true, if_true, if_false, not_true_eq_false, not_false_eq_true, i10, eq_self, decide_true, decide_false, Bool.or_true, Bool.true_or, Bool.or_false, Bool.false_or, eX11_feed_0, eX11_feed_0_5, xX5_append, eX5_append_38_0, eX5_append_38_11]
      by_cases h1 : v < 1
      · simp only [if_pos h1, px_bd_s, px_psh_s, px_psh_n, px_vb_s, px_ib_s, px_wb_s, px_bo_s, px_bo_n, Bool.cond_decide, cond_true, cond_false, ite_not, Bool.and_true, if_true, if_false, not_true_eq_false, not_false_eq_true, i10, eq_self, decide_true, decide_false, Bool.or_true, Bool.true_or, Bool.or_false, Bool.false_or, eX11_feed_0, eX11_feed_0_5]
      · have h2 : ¬ v ≤ 8 := fun q => hv ⟨Int32.not_lt.mp h1, q⟩
        simp only [if_neg h1, if_neg h2, px_bd_s, px_psh_s, px_psh_n, px_vb_s, px_ib_s, px_wb_s, px_bo_s, px_bo_n, Bool.cond_decide, cond_true, cond_false, ite_not, Bool.and_true, if_true, if_false, not_true_eq_false, not_false_eq_true, i10, eq_self, decide_true, decide_false, Bool.or_true, Bool.true_or, Bool.or_false, Bool.false_or, eX11_feed_0, eX11_feed_0_5]
    · rw [xX12_feed]
      simp only [px_bd_s, px_psh_s, px_psh_n, px_vb_s, px_ib_s, px_wb_s, px_bo_s, px_bo_n, Bool.cond_decide, cond_true, cond_false, ite_not, Bool.and_true, if_true, if_false, not_true_eq_false, not_false_eq_true, i10, eq_self, decide_true, decide_false, Bool.or_true, Bool.true_or, Bool.or_false, Bool.false_or, eX12_feed_0, eX12_feed_0_4, c_in, px_in_00 hv]
theorem t_feed_43 (M : Nat → Nat → Int32) (hI : ITx M) (v : Int32) (b : Int64) : ∃ w M1 M2, px_ex px_tab (d + 3) 145 [Value.ref (13), Value.int (v), Value.long (b)] (hp (M) (J) (R) (43) (38) nL xs (D)) = some (some (Value.int (w)), (hp (M1) (J) (R) (43) (38) nL xs (D))) ∧ px_ex px_tab (d + 3) 226 [Value.ref (67), Value.int (v), Value.long (b)] (hp (M1) (J) (R) (43) (38) nL xs (D)) = some (some (Value.int (w)), (hp (M2) (J) (R) (43) (38) nL xs (D))) ∧ ITx M2 ∧ frm [37, 48, 95] [37] M M2 := by
  obtain ⟨n, hn, h37, h67, hrow⟩ := hI
  by_cases hv : 1 ≤ v ∧ v ≤ 8
  · obtain ⟨m, hm, rfl⟩ := nI_of2 (x := v) (M := 8) (n := 8) (by decide) (fun q => Int32.not_lt.mpr hv.1 (Int32.lt_of_lt_of_le q (by decide))) hv.2
    by_cases hf : n + m ≤ 160
    · obtain ⟨r, a1, a2, a3⟩ := c_feed_l_43 (d + 1) J R nL xs D hm hf b m 0 M h37 (by omega)
      obtain ⟨r', b1, b2, b3⟩ := m_feed_l (d + 2) J R nL xs D 43 38 hm hf b m 0 (px_uR (px_uR M 48 r) 37 (upd (M 37) 2 (nI (n + m)))) h67 (by omega)
      rw [nI_0] at a1 b1
      refine ⟨nI (n + m), px_uR (px_uR M 48 r) 37 (upd (M 37) 2 (nI (n + m))), px_uR (px_uR (px_uR (px_uR M 48 r) 37 (upd (M 37) 2 (nI (n + m)))) 95 r') 67 (upd (M 67) 37 (nI (n + m))), ?_, ?_, ⟨n + m, hf, rfl, rfl, fun i hi => ?_⟩, ?_⟩
      · rw [xX11_feed]
        simp (disch := omega) only [px_bd_s, px_psh_s, px_psh_n, px_vb_s, px_ib_s, px_wb_s, px_bo_s, px_bo_n, Bool.cond_decide, cond_true, cond_false, ite_not, Bool.and_true, if_true, if_false, not_true_eq_false, not_false_eq_true, i10, eq_self, decide_true, decide_false, Bool.or_true, Bool.true_or, Bool.or_false, Bool.false_or, eX11_feed_0, eX11_feed_0_5, xX5_append, eX5_append_43_0, eX5_append_43_14, eX5_append_43_29, Int32.not_lt.mpr hv.1, hv.2, h37, nI_add, zc160, if_pos hf, a1]
      · have e1 : (px_uR (px_uR M 48 r) 37 (upd (M 37) 2 (nI (n + m)))) 67 37 = nI n := h67
        rw [xX12_feed]
        simp (disch := omega) only [px_bd_s, px_psh_s, px_psh_n, px_vb_s, px_ib_s, px_wb_s, px_bo_s, px_bo_n, Bool.cond_decide, cond_true, cond_false, ite_not, Bool.and_true, if_true, if_false, not_true_eq_false, not_false_eq_true, i10, eq_self, decide_true, decide_false, Bool.or_true, Bool.true_or, Bool.or_false, Bool.false_or, eX12_feed_0, eX12_feed_0_4, eX12_feed_13, eX12_feed_28, c_in, px_in_1 hv, e1, nI_add, zc160, if_pos hf, b1]
        rfl
      · show r i = r' i ∧ ∃ j, j < 256 ∧ r' i = nI j
        rcases Nat.lt_or_ge i n with q | q
        · rw [a2 i (by omega), b2 i (by omega)]
          exact hrow i q
        · obtain ⟨z, rfl⟩ : ∃ z, i = n + z := ⟨i - n, by omega⟩
          rw [a3 z (Nat.zero_le _) (by omega), b3 z (Nat.zero_le _) (by omega)]
          exact ⟨rfl, byte_n _⟩
      · exact ((((frm.rf _ _ _).u 48 _ (by decide) (by decide)).u 37 _ (by decide) (by decide)).u 95 _ (by decide) (by decide)).k 37 _ (by decide)
    · refine ⟨-4, M, M, ?_, ?_, ⟨n, hn, h37, h67, hrow⟩, frm.rf _ _ _⟩
      · rw [xX11_feed]
        simp (disch := omega) only [px_bd_s, px_psh_s, px_psh_n, px_vb_s, px_ib_s, px_wb_s, px_bo_s, px_bo_n, Bool.cond_decide, cond_true, cond_false, ite_not, Bool.and_true, if_true, if_false, not_true_eq_false, not_false_eq_true, i10, eq_self, decide_true, decide_false, Bool.or_true, Bool.true_or, Bool.or_false, Bool.false_or, eX11_feed_0, eX11_feed_0_5, xX5_append, eX5_append_43_0, eX5_append_43_14, Int32.not_lt.mpr hv.1, hv.2, h37, nI_add, zc160, if_neg hf]
      · rw [xX12_feed]
        simp (disch := omega) only [px_bd_s, px_psh_s, px_psh_n, px_vb_s, px_ib_s, px_wb_s, px_bo_s, px_bo_n, Bool.cond_decide, cond_true, cond_false, ite_not, Bool.and_true, if_true, if_false, not_true_eq_false, not_false_eq_true, i10, eq_self, decide_true, decide_false, Bool.or_true, Bool.true_or, Bool.or_false, Bool.false_or, eX12_feed_0, eX12_feed_0_4, eX12_feed_13, c_in, px_in_1 hv, h67, nI_add, zc160, if_neg hf]
  · refine ⟨-2, M, M, ?_, ?_, ⟨n, hn, h37, h67, hrow⟩, frm.rf _ _ _⟩
    · rw [xX11_feed]
      simp only [px_bd_s, px_psh_s, px_psh_n, px_vb_s, px_ib_s, px_wb_s, px_bo_s, px_bo_n, Bool.cond_decide, cond_true, cond_false, ite_not, Bool.and_true, if_true, if_false, not_true_eq_false, not_false_eq_true, i10, eq_self, decide_true, decide_false, Bool.or_true, Bool.true_or, Bool.or_false, Bool.false_or, eX11_feed_0, eX11_feed_0_5, xX5_append, eX5_append_43_0, eX5_append_43_11]
      by_cases h1 : v < 1
      · simp only [if_pos h1, px_bd_s, px_psh_s, px_psh_n, px_vb_s, px_ib_s, px_wb_s, px_bo_s, px_bo_n, Bool.cond_decide, cond_true, cond_false, ite_not, Bool.and_true, if_true, if_false, not_true_eq_false, not_false_eq_true, i10, eq_self, decide_true, decide_false, Bool.or_true, Bool.true_or, Bool.or_false, Bool.false_or, eX11_feed_0, eX11_feed_0_5]
      · have h2 : ¬ v ≤ 8 := fun q => hv ⟨Int32.not_lt.mp h1, q⟩
        simp only [if_neg h1, if_neg h2, px_bd_s, px_psh_s, px_psh_n, px_vb_s, px_ib_s, px_wb_s, px_bo_s, px_bo_n, Bool.cond_decide, cond_true, cond_false, ite_not, Bool.and_true, if_true, if_false, not_true_eq_false, not_false_eq_true, i10, eq_self, decide_true, decide_false, Bool.or_true, Bool.true_or, Bool.or_false, Bool.false_or, eX11_feed_0, eX11_feed_0_5]
    · rw [xX12_feed]
      simp only [px_bd_s, px_psh_s, px_psh_n, px_vb_s, px_ib_s, px_wb_s, px_bo_s, px_bo_n, Bool.cond_decide, cond_true, cond_false, ite_not, Bool.and_true, if_true, if_false, not_true_eq_false, not_false_eq_true, i10, eq_self, decide_true, decide_false, Bool.or_true, Bool.true_or, Bool.or_false, Bool.false_or, eX12_feed_0, eX12_feed_0_4, c_in, px_in_00 hv]
end S54
section S54b
variable (d : Nat) (M : Nat → Nat → Int32) (J : Nat → Nat → Int64) (R : Nat → Nat → Option Nat) (c e nL : Nat) (xs : Nat → Int32) (D : px_H)
theorem t_feed (hI : ITx M) (hR : IRl M c e) (v : Int32) (b : Int64) : ∃ w M1 M2, px_ex px_tab (d + 3) 145 [Value.ref (13), Value.int (v), Value.long (b)] (hp (M) (J) (R) (c) (e) nL xs (D)) = some (some (Value.int (w)), (hp (M1) (J) (R) (c) (e) nL xs (D))) ∧ px_ex px_tab (d + 3) 226 [Value.ref (67), Value.int (v), Value.long (b)] (hp (M1) (J) (R) (c) (e) nL xs (D)) = some (some (Value.int (w)), (hp (M2) (J) (R) (c) (e) nL xs (D))) ∧ ITx M2 ∧ frm [37, 48, 95] [37] M M2 := by
  rcases hR with ⟨rfl, rfl, _⟩ | ⟨rfl, rfl, _⟩
  · exact t_feed_38 d J R nL xs D M hI v b
  · exact t_feed_43 d J R nL xs D M hI v b
end S54b
