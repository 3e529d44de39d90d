/-! PART 51: TASK, GANG, PLAN, PLANNED -/
def IPl (M : Nat → Nat → Int32) (J : Nat → Nat → Int64) : Prop := ∃ (n ng : Nat) (mn wo cap : Nat → Nat), tab M (J 55) n ng mn wo cap ∧ M 51 0 = nI n ∧ M 51 1 = nI ng ∧ Stt M n ng mn wo ∧ (∀ g, g < ng → M 101 g = nI (cap g)) ∧ ((M 51 7 = 0 ∧ M 67 47 = 0) ∨ (M 51 7 = 1 ∧ M 67 47 = 1 ∧ M 51 8 = M 67 65 ∧ ∀ t, t < n → M 57 t = M 109 t))
theorem IPl.fr {S K : List Nat} {M M' : Nat → Nat → Int32} {J J' : Nat → Nat → Int64} (hf : frm S K M M') (hS : ∀ a ∈ [51, 52, 53, 54, 57, 99, 100, 101, 109], a ∉ S) (hK : ∀ k ∈ [42, 45, 47, 65], k ∉ K) (hJ : J' 55 = J 55) (h : IPl M J) : IPl M' J' := by
  have e1 : ∀ a, a ≠ 67 → a ∈ [51, 52, 53, 54, 57, 99, 100, 101, 109] → M' a = M a := fun a h1 h2 => hf.1 a h1 (hS a h2)
  have e2 : ∀ k, k ∈ [42, 45, 47, 65] → M' 67 k = M 67 k := fun k h => hf.2 k (hK k h)
  unfold IPl tab Stt
  rw [e1 51 (by decide) (by decide), e1 52 (by decide) (by decide), e1 53 (by decide) (by decide), e1 54 (by decide) (by decide), e1 57 (by decide) (by decide), e1 99 (by decide) (by decide), e1 100 (by decide) (by decide), e1 101 (by decide) (by decide), e1 109 (by decide) (by decide), e2 42 (by decide), e2 45 (by decide), e2 47 (by decide), e2 65 (by decide), hJ]
  exact h
theorem shl_n : ∀ n, n < 10 → (1 : Int32) <<< (nI n &&& 31) = nI (2 ^ n) := by decide
/-- two plans of one merit are one -/
theorem mer_u {wo b bb : Nat → Nat} {n : Nat} (hn : n ≤ 9) (hb : ∀ t, t < n → b t ≤ 4) (hbb : ∀ t, t < n → bb t ≤ 4) (h : mer (fun t => (wo t : Int)) b (2 ^ n - 1) = mer (fun t => (wo t : Int)) bb (2 ^ n - 1)) : wsm wo b n = wsm wo bb n ∧ ∀ t, t < n → b t = bb t := by
  rw [mer_all (wo := wo) hn hb, mer_all (wo := wo) hn hbb] at h
  have h1 := ord_lt hn hb
  have h2 := ord_lt hn hbb
  have h3 : ∀ t, t < n → xd b n * 5 ^ (9 - n) / 5 ^ (8 - t) % 5 = b t := fun t ht => dig_of hn ht hb
  have h4 : ∀ t, t < n → xd bb n * 5 ^ (9 - n) / 5 ^ (8 - t) % 5 = bb t := fun t ht => dig_of hn ht hbb
  generalize xd b n * 5 ^ (9 - n) = o1 at h h1 h3
  generalize xd bb n * 5 ^ (9 - n) = o2 at h h2 h4
  have e1 : wsm wo b n = wsm wo bb n := by omega
  have e2 : o1 = o2 := by omega
  exact ⟨e1, fun t ht => by rw [← h3 t ht, ← h4 t ht, e2]⟩
theorem bs_pow (f : Nat → Int) (n : Nat) : ∀ k, bs f (2 ^ n) k = if n < k then f n else 0
  | 0 => rfl
  | k + 1 => by
    rw [bs_s, bs_pow f n k, Nat.testBit_two_pow]
    by_cases h : n = k
    · subst h
      all_goals simp
    · rw [decide_eq_false h]
      by_cases h1 : n < k
      · rw [if_pos h1, if_pos (show n < k + 1 by omega)]
        all_goals simp
      · rw [if_neg h1, if_neg (show ¬ n < k + 1 by omega)]
        all_goals simp
theorem bs_add {f : Nat → Int} {n s : Nat} (hn : n < 9) (hs : s < 2 ^ n) : bs f (2 ^ n + s) 9 = bs f s 9 + f n := by
  rw [bs_split (q := s) (r := 2 ^ n) 9 (fun t _ => ?_), bs_pow, if_pos hn]
  rw [Nat.testBit_two_pow]
  rcases Nat.lt_trichotomy t n with h | h | h
  · rw [Nat.testBit_two_pow_add_gt h, decide_eq_false (by omega)]
    all_goals simp
  · rw [h, Nat.testBit_two_pow_add_eq, Nat.testBit_lt_two_pow hs, decide_eq_true rfl]
    all_goals simp
  · rw [decide_eq_false (by omega), Nat.testBit_lt_two_pow (show s < 2 ^ t from Nat.lt_of_lt_of_le hs (Nat.pow_le_pow_right (by decide) (by omega))), Nat.testBit_lt_two_pow (show 2 ^ n + s < 2 ^ t from by
      have : 2 ^ (n + 1) ≤ 2 ^ t := Nat.pow_le_pow_right (by decide) (by omega)
      rw [Nat.pow_succ] at this
      omega)]
    all_goals simp
theorem bs_ext {f f' : Nat → Int} {n s : Nat} (hs : s < 2 ^ n) (h : ∀ t, t < n → f t = f' t) : bs f s 9 = bs f' s 9 := by
  refine bs_c 9 (fun t _ => ⟨rfl, fun hb => h t ?_⟩)
  rcases Nat.lt_or_ge t n with q | q
  · exact q
  · rw [Nat.testBit_lt_two_pow (Nat.lt_of_lt_of_le hs (Nat.pow_le_pow_right (by decide) q))] at hb
    cases hb
section S51
variable (d : Nat) (J : Nat → Nat → Int64) (R : Nat → Nat → Option Nat) (c e nL : Nat) (xs : Nat → Int32) (D : px_H)
theorem c_place_l {n : Nat} (hn : n ≤ 8) (M : Nat → Nat → Int32) (h51 : M 51 0 = nI n) (v u : Int32) : ∀ (g k : Nat), k + g = n → px_run (px_mk (kX3_addTask (px_ex px_tab d))) 44 ([some (Value.ref (51)), some (Value.int (v)), some (Value.int (u)), some (Value.int (nI (390625 / 5 ^ k))), some (Value.int (nI k)), none], [], (hp (M) (J) (R) (c) (e) nL xs (D))) = px_run (px_mk (kX3_addTask (px_ex px_tab d))) 63 ([some (Value.ref (51)), some (Value.int (v)), some (Value.int (u)), some (Value.int (nI (390625 / 5 ^ n))), some (Value.int (nI n)), none], [], (hp (M) (J) (R) (c) (e) nL xs (D)))
  | 0, k, hk => by
    rw [eX3_addTask_44, h51, show k = n from by omega]
    simp (disch := omega) only [px_bd_s, px_psh_s, px_psh_n, px_vb_s, px_ib_s, px_wb_s, px_bo_s, px_bo_n, Bool.cond_decide, cond_true, cond_false, ite_not, Bool.and_true, if_true, if_false, not_true_eq_false, not_false_eq_true, i10, eq_self, decide_true, decide_false, Bool.or_true, Bool.true_or, Bool.or_false, Bool.false_or, nI_leI, if_pos]
  | g + 1, k, hk => by
    have hle : 390625 / 5 ^ k ≤ 390625 := Nat.div_le_self _ _
    have e1 : nI (390625 / 5 ^ k) / 5 = nI (390625 / 5 ^ (k + 1)) := by
      rw [show nI (390625 / 5 ^ k) / 5 = nI (390625 / 5 ^ k / 5) from pk_div (d := 5) (by omega) (by decide) (by decide), Nat.div_div_eq_div_mul, ← Nat.pow_succ]
    rw [eX3_addTask_44, h51]
    simp (disch := omega) only [px_bd_s, px_psh_s, px_psh_n, px_vb_s, px_ib_s, px_wb_s, px_bo_s, px_bo_n, Bool.cond_decide, cond_true, cond_false, ite_not, Bool.and_true, if_true, if_false, not_true_eq_false, not_false_eq_true, i10, eq_self, decide_true, decide_false, Bool.or_true, Bool.true_or, Bool.or_false, Bool.false_or, nI_leI, if_neg, e1, nI_1]
    exact c_place_l hn M h51 v u g (k + 1) (by omega)
end S51
section S51b
variable (d : Nat) (R : Nat → Nat → Option Nat) (c e nL : Nat) (xs : Nat → Int32) (D : px_H)
theorem c_sets_l {n : Nat} (hn : n ≤ 8) (v u w : Int32) : ∀ (g k : Nat) (M : Nat → Nat → Int32) (J : Nat → Nat → Int64), k + g = 2 ^ n → ∃ r53 r54 j55, px_run (px_mk (kX3_addTask (px_ex px_tab d))) 74 ([some (Value.ref (51)), some (Value.int (v)), some (Value.int (u)), some (Value.int (w)), some (Value.int (nI (2 ^ n))), some (Value.int (nI k))], [], (hp (M) (J) (R) (c) (e) nL xs (D))) = px_run (px_mk (kX3_addTask (px_ex px_tab d))) 149 ([some (Value.ref (51)), some (Value.int (v)), some (Value.int (u)), some (Value.int (w)), some (Value.int (nI (2 ^ n))), some (Value.int (nI (2 ^ n)))], [], (hp (px_uR (px_uR M 53 r53) 54 r54) (px_uJ J 55 j55) (R) (c) (e) nL xs (D))) ∧ (∀ s, s < 2 ^ n + k → r53 s = M 53 s ∧ r54 s = M 54 s ∧ j55 s = J 55 s) ∧ (∀ s, k ≤ s → s < 2 ^ n → r53 (2 ^ n + s) = M 53 s + v ∧ r54 (2 ^ n + s) = M 54 s + w ∧ j55 (2 ^ n + s) = J 55 s + Int32.toInt64 u * 1953125)
  | 0, k, M, J, hk => by
    have h9 : 2 ^ n ≤ 2 ^ 8 := Nat.pow_le_pow_right (by decide) hn
    refine ⟨M 53, M 54, J 55, ?_, fun _ _ => ⟨rfl, rfl, rfl⟩, fun s h1 h2 => by omega⟩
    rw [eX3_addTask_74, px_uR_id, px_uR_id, px_uJ_id, show k = 2 ^ n from by omega]
    simp (disch := omega) only [px_bd_s, px_psh_s, px_psh_n, px_vb_s, px_ib_s, px_wb_s, px_bo_s, px_bo_n, Bool.cond_decide, cond_true, cond_false, ite_not, Bool.and_true, if_true, if_false, not_true_eq_false, not_false_eq_true, i10, eq_self, decide_true, decide_false, Bool.or_true, Bool.true_or, Bool.or_false, Bool.false_or, nI_leI, if_pos]
  | g + 1, k, M, J, hk => by
    have h9 : 2 ^ n ≤ 2 ^ 8 := Nat.pow_le_pow_right (by decide) hn
    obtain ⟨r53, r54, j55, q1, q2, q3⟩ := c_sets_l hn v u w g (k + 1) (px_uR (px_uR M 53 (upd (M 53) (2 ^ n + k) (M 53 k + v))) 54 (upd (M 54) (2 ^ n + k) (M 54 k + w))) (px_uJ J 55 (vp_updL (J 55) (2 ^ n + k) (J 55 k + Int32.toInt64 u * 1953125))) (by omega)
    refine ⟨r53, r54, j55, ?_, fun s hs => ?_, fun s h1 h2 => ?_⟩
    · rw [px_uR_c, px_uJ_2] at q1
      refine Eq.trans ?_ q1
      rw [eX3_addTask_74]
      simp (disch := omega) only [px_bd_s, px_psh_s, px_psh_n, px_vb_s, px_ib_s, px_wb_s, px_bo_s, px_bo_n, Bool.cond_decide, cond_true, cond_false, ite_not, Bool.and_true, if_true, if_false, not_true_eq_false, not_false_eq_true, i10, eq_self, decide_true, decide_false, Bool.or_true, Bool.true_or, Bool.or_false, Bool.false_or, nI_leI, if_neg, px_inbT, nI_clamp, nI_add, nI_1]
    · obtain ⟨a1, a2, a3⟩ := q2 s (by omega)
      rw [a1, a2, a3]
      exact ⟨pk_un (by omega), pk_un (by omega), pk_uLn (by omega)⟩
    · rcases Nat.lt_or_ge k s with z | z
      · obtain ⟨a1, a2, a3⟩ := q3 s z h2
        rw [a1, a2, a3]
        refine ⟨?_, ?_, ?_⟩
        · show upd (M 53) (2 ^ n + k) _ s + v = _
          rw [pk_un (by omega)]
        · show upd (M 54) (2 ^ n + k) _ s + w = _
          rw [pk_un (by omega)]
        · show vp_updL (J 55) (2 ^ n + k) _ s + _ = _
          rw [pk_uLn (by omega)]
      · obtain ⟨a1, a2, a3⟩ := q2 (2 ^ n + s) (by omega)
        rw [a1, a2, a3, show s = k from by omega]
        exact ⟨pk_us, pk_us, pk_uLs⟩
end S51b
section S51c
variable (d : Nat) (M : Nat → Nat → Int32) (J : Nat → Nat → Int64) (R : Nat → Nat → Option Nat) (c e nL : Nat) (xs : Nat → Int32) (D : px_H)
theorem t_gang (hI : IPl M J) (v : Int32) : ∃ w M1 M2, px_ex px_tab (d + 3) 152 [Value.ref (13), Value.int (v)] (hp (M) (J) (R) (c) (e) nL xs (D)) = some (some (Value.int (w)), (hp (M1) (J) (R) (c) (e) nL xs (D))) ∧ px_ex px_tab (d + 3) 239 [Value.ref (67), Value.int (v)] (hp (M1) (J) (R) (c) (e) nL xs (D)) = some (some (Value.int (w)), (hp (M2) (J) (R) (c) (e) nL xs (D))) ∧ IPl M2 J ∧ frm [51, 52, 101] [45, 47] M M2 := by
  obtain ⟨n, ng, mn, wo, cap, hT, h510, h511, hS, h101, hpl⟩ := hI
  have hng := hT.2.1
  by_cases hv : 0 ≤ v ∧ v ≤ 400
  · by_cases h4 : ng = 4
    · subst h4
      refine ⟨-4, M, M, ?_, ?_, ⟨n, 4, mn, wo, cap, hT, h510, h511, hS, h101, hpl⟩, frm.rf _ _ _⟩
      · rw [xX11_gang]
        simp only [px_bd_s, px_psh_s, px_psh_n, px_vb_s, px_ib_s, px_wb_s, px_bo_s, px_bo_n, Bool.cond_decide, cond_true, cond_false, ite_not, Bool.and_true, if_true, if_false, not_true_eq_false, not_false_eq_true, i10, eq_self, decide_true, decide_false, Bool.or_true, Bool.true_or, Bool.or_false, Bool.false_or, eX11_gang_0, eX11_gang_0_4, xX3_addGang, eX3_addGang_0, eX3_addGang_14, Int32.not_lt.mpr hv.1, hv.2, h511, show ¬ nI 4 < 4 from by decide]
      · rw [xX12_gang]
        simp only [px_bd_s, px_psh_s, px_psh_n, px_vb_s, px_ib_s, px_wb_s, px_bo_s, px_bo_n, Bool.cond_decide, cond_true, cond_false, ite_not, Bool.and_true, if_true, if_false, not_true_eq_false, not_false_eq_true, i10, eq_self, decide_true, decide_false, Bool.or_true, Bool.true_or, Bool.or_false, Bool.false_or, eX12_gang_0, eX12_gang_0_4, eX12_gang_14, c_in, px_in_1 hv, hS.2.1, show nI 4 = 4 from rfl]
    · obtain ⟨cv, hcv, rfl⟩ := nI_of2 (x := v) (M := 400) (n := 400) (by decide) (Int32.not_lt.mpr hv.1) hv.2
      refine ⟨nI ng, px_uR (px_uR M 52 (upd (M 52) ng (nI cv))) 51 (upd (upd (M 51) 1 (nI (ng + 1))) 7 0), px_uR (px_uR (px_uR (px_uR M 52 (upd (M 52) ng (nI cv))) 51 (upd (upd (M 51) 1 (nI (ng + 1))) 7 0)) 101 (upd (M 101) ng (nI cv))) 67 (upd (upd (M 67) 45 (nI (ng + 1))) 47 0), ?_, ?_, ?_, ?_⟩
      · rw [xX11_gang]
        simp (disch := omega) only [px_bd_s, px_psh_s, px_psh_n, px_vb_s, px_ib_s, px_wb_s, px_bo_s, px_bo_n, Bool.cond_decide, cond_true, cond_false, ite_not, Bool.and_true, if_true, if_false, not_true_eq_false, not_false_eq_true, i10, eq_self, decide_true, decide_false, Bool.or_true, Bool.true_or, Bool.or_false, Bool.false_or, eX11_gang_0, eX11_gang_0_4, xX3_addGang, eX3_addGang_0, eX3_addGang_14, eX3_addGang_25, Int32.not_lt.mpr hv.1, hv.2, h511, zd4, if_pos, px_inbT, nI_clamp, nI_1, nI_pred]
      · have e1 : (px_uR (px_uR M 52 (upd (M 52) ng (nI cv))) 51 (upd (upd (M 51) 1 (nI (ng + 1))) 7 0)) 67 45 = nI ng := hS.2.1
        rw [xX12_gang]
        simp (disch := omega) only [px_bd_s, px_psh_s, px_psh_n, px_vb_s, px_ib_s, px_wb_s, px_bo_s, px_bo_n, Bool.cond_decide, cond_true, cond_false, ite_not, Bool.and_true, if_true, if_false, not_true_eq_false, not_false_eq_true, i10, eq_self, decide_true, decide_false, Bool.or_true, Bool.true_or, Bool.or_false, Bool.false_or, eX12_gang_0, eX12_gang_0_4, eX12_gang_14, eX12_gang_25, c_in, px_in_1 hv, e1, ze4, if_neg, px_inbT, nI_clamp, nI_1, nI_pred]
        rfl
      · refine ⟨n, ng + 1, mn, wo, fun g => if g = ng then cv else cap g, ⟨hT.1, by omega, hT.2.2.1, fun g hg => ?_, hT.2.2.2.2⟩, h510, rfl, ⟨hS.1, rfl, hS.2.2⟩, fun g hg => ?_, Or.inl ⟨rfl, rfl⟩⟩
        · show upd (M 52) ng (nI cv) g = nI (if g = ng then cv else cap g) ∧ (if g = ng then cv else cap g) ≤ 400
          by_cases h : g = ng
          · rw [h, pk_us, if_pos rfl]
            exact ⟨rfl, hcv⟩
          · rw [pk_un h, if_neg h]
            exact hT.2.2.2.1 g (by omega)
        · show upd (M 101) ng (nI cv) g = nI (if g = ng then cv else cap g)
          by_cases h : g = ng
          · rw [h, pk_us, if_pos rfl]
          · rw [pk_un h, if_neg h]
            exact h101 g (by omega)
      · have f1 := ((frm.rf [51, 52, 101] [45, 47] M).u 52 (upd (M 52) ng (nI cv)) (by decide) (by decide)).u 51 (upd (upd (M 51) 1 (nI (ng + 1))) 7 0) (by decide) (by decide)
        have f2 := (f1.u 101 (upd (M 101) ng (nI cv)) (by decide) (by decide)).k 45 (nI (ng + 1)) (by decide)
        have f3 := f2.k 47 0 (by decide)
        rw [px_uR_2, px_uR_s] at f3
        exact f3
  · refine ⟨-2, M, M, ?_, ?_, ⟨n, ng, mn, wo, cap, hT, h510, h511, hS, h101, hpl⟩, frm.rf _ _ _⟩
    · rw [xX11_gang]
      simp only [px_bd_s, px_psh_s, px_psh_n, px_vb_s, px_ib_s, px_wb_s, px_bo_s, px_bo_n, Bool.cond_decide, cond_true, cond_false, ite_not, Bool.and_true, if_true, if_false, not_true_eq_false, not_false_eq_true, i10, eq_self, decide_true, decide_false, Bool.or_true, Bool.true_or, Bool.or_false, Bool.false_or, eX11_gang_0, eX11_gang_0_4, xX3_addGang, eX3_addGang_0, eX3_addGang_11]
      by_cases h1 : v < 0
      · simp only [if_pos h1, px_bd_s, px_psh_s, px_psh_n, px_vb_s, px_ib_s, px_wb_s, px_bo_s, px_bo_n, Bool.cond_decide, cond_true, cond_false, ite_not, Bool.and_true, if_true, if_false, not_true_eq_false, not_false_eq_true, i10, eq_self, decide_true, decide_false, Bool.or_true, Bool.true_or, Bool.or_false, Bool.false_or, eX11_gang_0, eX11_gang_0_4]
      · have h2 : ¬ v ≤ 400 := fun q => hv ⟨Int32.not_lt.mp h1, q⟩
        simp only [if_neg h1, if_neg h2, px_bd_s, px_psh_s, px_psh_n, px_vb_s, px_ib_s, px_wb_s, px_bo_s, px_bo_n, Bool.cond_decide, cond_true, cond_false, ite_not, Bool.and_true, if_true, if_false, not_true_eq_false, not_false_eq_true, i10, eq_self, decide_true, decide_false, Bool.or_true, Bool.true_or, Bool.or_false, Bool.false_or, eX11_gang_0, eX11_gang_0_4]
    · rw [xX12_gang]
      simp only [px_bd_s, px_psh_s, px_psh_n, px_vb_s, px_ib_s, px_wb_s, px_bo_s, px_bo_n, Bool.cond_decide, cond_true, cond_false, ite_not, Bool.and_true, if_true, if_false, not_true_eq_false, not_false_eq_true, i10, eq_self, decide_true, decide_false, Bool.or_true, Bool.true_or, Bool.or_false, Bool.false_or, eX12_gang_0, eX12_gang_0_4, c_in, px_in_00 hv]
end S51c
