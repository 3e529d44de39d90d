/-! PART 23: SHEETS: has, make, put, wipe, class and model -/
def ISh (M : Nat → Nat → Int32) : Prop := ∀ s, s < 4 → M 60 s = M 102 s ∧ (∃ n, n ≤ 40 ∧ M 61 s = nI n ∧ M 103 s = nI n) ∧ (M 102 s = 2 → ∀ i, i < 40 → nI i < M 61 s → ((M 105 (40 * s + i) = 0 ∧ M (63 + s) i = M 104 (40 * s + i) ∧ M (63 + s) i ≠ 40001) ∨ (M 105 (40 * s + i) = 1 ∧ M (63 + s) i = 40001)))
theorem ISh.fr {S K : List Nat} {M M' : Nat → Nat → Int32} (hf : frm S K M M') (hS : ∀ a ∈ [60, 61, 63, 64, 65, 66, 102, 103, 104, 105], a ∉ S) (h : ISh M) : ISh M' := by
  have e : ∀ a, a ≠ 67 → a ∈ [60, 61, 63, 64, 65, 66, 102, 103, 104, 105] → M' a = M a := fun a h1 h2 => hf.1 a h1 (hS a h2)
  intro s hs
  rw [e 60 (by decide) (by decide), e 61 (by decide) (by decide), e 102 (by decide) (by decide), e 103 (by decide) (by decide), e 104 (by decide) (by decide), e 105 (by decide) (by decide), e (63 + s) (by omega) (by simp; omega)]
  exact h s hs
section S23
variable (d : Nat) (M : Nat → Nat → Int32) (J : Nat → Nat → Int64) (R : Nat → Nat → Option Nat) (c e nL : Nat) (xs : Nat → Int32) (D : px_H)
theorem sh_pa {s i : Nat} (hs : s < 4) (hi : i < 40) (x : Int32) : px_pa (hp M J R c e nL xs D) (63 + s) (nI i) x = some (hp (px_uR M (63 + s) (upd (M (63 + s)) i x)) J R c e nL xs D) := by
  unfold px_pa
  rcases (by omega : s = 0 ∨ s = 1 ∨ s = 2 ∨ s = 3) with rfl | rfl | rfl | rfl
  · rw [show (hp M J R c e nL xs D)[63 + 0]? = some (.inl (0, 40, .inl (M 63))) from rfl]
    dsimp only
    rw [px_inbT hi (by decide), nI_clamp (by omega)]
    rfl
  · rw [show (hp M J R c e nL xs D)[63 + 1]? = some (.inl (0, 40, .inl (M 64))) from rfl]
    dsimp only
    rw [px_inbT hi (by decide), nI_clamp (by omega)]
    rfl
  · rw [show (hp M J R c e nL xs D)[63 + 2]? = some (.inl (0, 40, .inl (M 65))) from rfl]
    dsimp only
    rw [px_inbT hi (by decide), nI_clamp (by omega)]
    rfl
  · rw [show (hp M J R c e nL xs D)[63 + 3]? = some (.inl (0, 40, .inl (M 66))) from rfl]
    dsimp only
    rw [px_inbT hi (by decide), nI_clamp (by omega)]
    rfl
theorem sh_ga {s i : Nat} (hs : s < 4) (hi : i < 40) : px_ga (hp M J R c e nL xs D) (63 + s) 0 (nI i) = some (M (63 + s) i) := by
  unfold px_ga
  rcases (by omega : s = 0 ∨ s = 1 ∨ s = 2 ∨ s = 3) with rfl | rfl | rfl | rfl
  · rw [show (hp M J R c e nL xs D)[63 + 0]? = some (.inl (0, 40, .inl (M 63))) from rfl]
    dsimp only
    rw [px_inbT hi (by decide), nI_clamp (by omega)]
    rfl
  · rw [show (hp M J R c e nL xs D)[63 + 1]? = some (.inl (0, 40, .inl (M 64))) from rfl]
    dsimp only
    rw [px_inbT hi (by decide), nI_clamp (by omega)]
    rfl
  · rw [show (hp M J R c e nL xs D)[63 + 2]? = some (.inl (0, 40, .inl (M 65))) from rfl]
    dsimp only
    rw [px_inbT hi (by decide), nI_clamp (by omega)]
    rfl
  · rw [show (hp M J R c e nL xs D)[63 + 3]? = some (.inl (0, 40, .inl (M 66))) from rfl]
    dsimp only
    rw [px_inbT hi (by decide), nI_clamp (by omega)]
    rfl
theorem sh_it {s : Nat} (hs : s < 4) : px_items s = some (63 + s) := if_pos hs
theorem c_has_y {s : Nat} (hs : s < 4) : px_ex px_tab (d + 1) 70 [Value.ref (59), Value.int (nI s)] (hp (M) (J) (R) (c) (e) nL xs (D)) = some (some (Value.int (1)), (hp (M) (J) (R) (c) (e) nL xs (D))) := by
  rw [xX6_has]
  simp (disch := omega) only [px_bd_s, px_psh_s, px_psh_n, px_vb_s, px_ib_s, px_wb_s, px_bo_s, px_bo_n, Bool.cond_decide, cond_true, cond_false, ite_not, Bool.and_true, if_true, if_false, not_true_eq_false, not_false_eq_true, i10, eq_self, decide_true, decide_false, Bool.or_true, Bool.true_or, Bool.or_false, Bool.false_or, za0, zb0, zc0, zd0, ze0, zf0, za1, zb1, zc1, zd1, ze1, zf1, za2, zb2, zc2, zd2, ze2, zf2, za3, zb3, zc3, zd3, ze3, zf3, za4, zb4, zc4, zd4, ze4, zf4, za5, zb5, zc5, zd5, ze5, zf5, za6, zb6, zc6, zd6, ze6, zf6, za7, zb7, zc7, zd7, ze7, zf7, za8, zb8, zc8, zd8, ze8, zf8, za9, zb9, zc9, zd9, ze9, zf9, za10, zb10, zc10, zd10, ze10, zf10, za20, zb20, zc20, zd20, ze20, zf20, za24, zb24, zc24, zd24, ze24, zf24, za39, zb39, zc39, zd39, ze39, zf39, za40, zb40, zc40, zd40, ze40, zf40, za50, zb50, zc50, zd50, ze50, zf50, za51, zb51, zc51, zd51, ze51, zf51, za60, zb60, zc60, zd60, ze60, zf60, za90, zb90, zc90, zd90, ze90, zf90, za99, zb99, zc99, zd99, ze99, zf99, za100, zb100, zc100, zd100, ze100, zf100, za101, zb101, zc101, zd101, ze101, zf101, za120, zb120, zc120, zd120, ze120, zf120, za160, zb160, zc160, zd160, ze160, zf160, za200, zb200, zc200, zd200, ze200, zf200, za400, zb400, zc400, zd400, ze400, zf400, za999, zb999, zc999, zd999, ze999, zf999, za1000, zb1000, zc1000, zd1000, ze1000, zf1000, za1440, zb1440, zc1440, zd1440, ze1440, zf1440, zp1, zp2, zp3, zp8, zp40, zq8, zq10, zq40, nI_leI, nI_ltI, nI_eq, px_inbT, nI_clamp, nI_add, pk_m1, if_pos, if_neg, eX6_has_0, eX6_has_13, eX6_has_14]
  all_goals simp
theorem c_has_n {v : Int32} (hv : v < 0 ∨ 4 ≤ v) : px_ex px_tab (d + 1) 70 [Value.ref (59), Value.int (v)] (hp (M) (J) (R) (c) (e) nL xs (D)) = some (some (Value.int (0)), (hp (M) (J) (R) (c) (e) nL xs (D))) := by
  rw [xX6_has]
  by_cases h0 : v < 0
  · simp [eX6_has_0, eX6_has_13, eX6_has_14, h0]
  · have h4 : 4 ≤ v := hv.resolve_left h0
    simp [eX6_has_0, eX6_has_13, eX6_has_14, h0, h4]
theorem c_floats {s : Nat} (hs : s < 4) : px_ex px_tab (d + 1) 75 [Value.ref (59), Value.int (nI s)] (hp (M) (J) (R) (c) (e) nL xs (D)) = some (some (Value.int (if M 60 s = -1 then -11 else if M 60 s = 2 then 0 else -13)), (hp (M) (J) (R) (c) (e) nL xs (D))) := by
  rw [xX6_floatsRefusal]
  simp (disch := omega) only [px_bd_s, px_psh_s, px_psh_n, px_vb_s, px_ib_s, px_wb_s, px_bo_s, px_bo_n, Bool.cond_decide, cond_true, cond_false, ite_not, Bool.and_true, if_true, if_false, not_true_eq_false, not_false_eq_true, i10, eq_self, decide_true, decide_false, Bool.or_true, Bool.true_or, Bool.or_false, Bool.false_or, za0, zb0, zc0, zd0, ze0, zf0, za1, zb1, zc1, zd1, ze1, zf1, za2, zb2, zc2, zd2, ze2, zf2, za3, zb3, zc3, zd3, ze3, zf3, za4, zb4, zc4, zd4, ze4, zf4, za5, zb5, zc5, zd5, ze5, zf5, za6, zb6, zc6, zd6, ze6, zf6, za7, zb7, zc7, zd7, ze7, zf7, za8, zb8, zc8, zd8, ze8, zf8, za9, zb9, zc9, zd9, ze9, zf9, za10, zb10, zc10, zd10, ze10, zf10, za20, zb20, zc20, zd20, ze20, zf20, za24, zb24, zc24, zd24, ze24, zf24, za39, zb39, zc39, zd39, ze39, zf39, za40, zb40, zc40, zd40, ze40, zf40, za50, zb50, zc50, zd50, ze50, zf50, za51, zb51, zc51, zd51, ze51, zf51, za60, zb60, zc60, zd60, ze60, zf60, za90, zb90, zc90, zd90, ze90, zf90, za99, zb99, zc99, zd99, ze99, zf99, za100, zb100, zc100, zd100, ze100, zf100, za101, zb101, zc101, zd101, ze101, zf101, za120, zb120, zc120, zd120, ze120, zf120, za160, zb160, zc160, zd160, ze160, zf160, za200, zb200, zc200, zd200, ze200, zf200, za400, zb400, zc400, zd400, ze400, zf400, za999, zb999, zc999, zd999, ze999, zf999, za1000, zb1000, zc1000, zd1000, ze1000, zf1000, za1440, zb1440, zc1440, zd1440, ze1440, zf1440, zp1, zp2, zp3, zp8, zp40, zq8, zq10, zq40, nI_leI, nI_ltI, nI_eq, px_inbT, nI_clamp, nI_add, pk_m1, if_pos, if_neg, eX6_floatsRefusal_0, eX6_floatsRefusal_13, eX6_floatsRefusal_27, eX6_floatsRefusal_29]
  by_cases h1 : M 60 s = -1
  · simp [h1]
  · by_cases h2 : M 60 s = 2 <;> simp [h1, h2]
theorem c_holds {s : Nat} (hs : s < 4) (v : Int32) : px_ex px_tab (d + 1) 76 [Value.ref (59), Value.int (nI s), Value.int (v)] (hp (M) (J) (R) (c) (e) nL xs (D)) = some (some (Value.int (if v < 0 ∨ M 61 s ≤ v then 0 else 1)), (hp (M) (J) (R) (c) (e) nL xs (D))) := by
  rw [xX6_holds]
  simp (disch := omega) only [px_bd_s, px_psh_s, px_psh_n, px_vb_s, px_ib_s, px_wb_s, px_bo_s, px_bo_n, Bool.cond_decide, cond_true, cond_false, ite_not, Bool.and_true, if_true, if_false, not_true_eq_false, not_false_eq_true, i10, eq_self, decide_true, decide_false, Bool.or_true, Bool.true_or, Bool.or_false, Bool.false_or, za0, zb0, zc0, zd0, ze0, zf0, za1, zb1, zc1, zd1, ze1, zf1, za2, zb2, zc2, zd2, ze2, zf2, za3, zb3, zc3, zd3, ze3, zf3, za4, zb4, zc4, zd4, ze4, zf4, za5, zb5, zc5, zd5, ze5, zf5, za6, zb6, zc6, zd6, ze6, zf6, za7, zb7, zc7, zd7, ze7, zf7, za8, zb8, zc8, zd8, ze8, zf8, za9, zb9, zc9, zd9, ze9, zf9, za10, zb10, zc10, zd10, ze10, zf10, za20, zb20, zc20, zd20, ze20, zf20, za24, zb24, zc24, zd24, ze24, zf24, za39, zb39, zc39, zd39, ze39, zf39, za40, zb40, zc40, zd40, ze40, zf40, za50, zb50, zc50, zd50, ze50, zf50, za51, zb51, zc51, zd51, ze51, zf51, za60, zb60, zc60, zd60, ze60, zf60, za90, zb90, zc90, zd90, ze90, zf90, za99, zb99, zc99, zd99, ze99, zf99, za100, zb100, zc100, zd100, ze100, zf100, za101, zb101, zc101, zd101, ze101, zf101, za120, zb120, zc120, zd120, ze120, zf120, za160, zb160, zc160, zd160, ze160, zf160, za200, zb200, zc200, zd200, ze200, zf200, za400, zb400, zc400, zd400, ze400, zf400, za999, zb999, zc999, zd999, ze999, zf999, za1000, zb1000, zc1000, zd1000, ze1000, zf1000, za1440, zb1440, zc1440, zd1440, ze1440, zf1440, zp1, zp2, zp3, zp8, zp40, zq8, zq10, zq40, nI_leI, nI_ltI, nI_eq, px_inbT, nI_clamp, nI_add, pk_m1, if_pos, if_neg, eX6_holds_0, eX6_holds_18, eX6_holds_19]
  by_cases h1 : v < 0
  · simp [h1]
  · by_cases h2 : M 61 s ≤ v <;> simp [h1, h2]
theorem c_isNumber {s i : Nat} (hs : s < 4) (hi : i < 40) : px_ex px_tab (d + 1) 77 [Value.ref (59), Value.int (nI s), Value.int (nI i)] (hp (M) (J) (R) (c) (e) nL xs (D)) = some (some (Value.int (if M (63 + s) i = 40001 then 0 else 1)), (hp (M) (J) (R) (c) (e) nL xs (D))) := by
  rw [xX6_isNumber]
  simp (disch := omega) only [px_bd_s, px_psh_s, px_psh_n, px_vb_s, px_ib_s, px_wb_s, px_bo_s, px_bo_n, Bool.cond_decide, cond_true, cond_false, ite_not, Bool.and_true, if_true, if_false, not_true_eq_false, not_false_eq_true, i10, eq_self, decide_true, decide_false, Bool.or_true, Bool.true_or, Bool.or_false, Bool.false_or, za0, zb0, zc0, zd0, ze0, zf0, za1, zb1, zc1, zd1, ze1, zf1, za2, zb2, zc2, zd2, ze2, zf2, za3, zb3, zc3, zd3, ze3, zf3, za4, zb4, zc4, zd4, ze4, zf4, za5, zb5, zc5, zd5, ze5, zf5, za6, zb6, zc6, zd6, ze6, zf6, za7, zb7, zc7, zd7, ze7, zf7, za8, zb8, zc8, zd8, ze8, zf8, za9, zb9, zc9, zd9, ze9, zf9, za10, zb10, zc10, zd10, ze10, zf10, za20, zb20, zc20, zd20, ze20, zf20, za24, zb24, zc24, zd24, ze24, zf24, za39, zb39, zc39, zd39, ze39, zf39, za40, zb40, zc40, zd40, ze40, zf40, za50, zb50, zc50, zd50, ze50, zf50, za51, zb51, zc51, zd51, ze51, zf51, za60, zb60, zc60, zd60, ze60, zf60, za90, zb90, zc90, zd90, ze90, zf90, za99, zb99, zc99, zd99, ze99, zf99, za100, zb100, zc100, zd100, ze100, zf100, za101, zb101, zc101, zd101, ze101, zf101, za120, zb120, zc120, zd120, ze120, zf120, za160, zb160, zc160, zd160, ze160, zf160, za200, zb200, zc200, zd200, ze200, zf200, za400, zb400, zc400, zd400, ze400, zf400, za999, zb999, zc999, zd999, ze999, zf999, za1000, zb1000, zc1000, zd1000, ze1000, zf1000, za1440, zb1440, zc1440, zd1440, ze1440, zf1440, zp1, zp2, zp3, zp8, zp40, zq8, zq10, zq40, nI_leI, nI_ltI, nI_eq, px_inbT, nI_clamp, nI_add, pk_m1, if_pos, if_neg, eX6_isNumber_0, eX6_isNumber_0_5, eX6_isNumber_0_6, eX6_isNumber_17, eX6_isNumber_18, sh_it hs, sh_ga]
  by_cases h1 : M (63 + s) i = 40001 <;> simp [h1]
theorem c_whole {s i : Nat} (hs : s < 4) (hi : i < 40) : px_ex px_tab (d + 1) 78 [Value.ref (59), Value.int (nI s), Value.int (nI i)] (hp (M) (J) (R) (c) (e) nL xs (D)) = some (some (Value.int (M (63 + s) i / 2)), (hp (M) (J) (R) (c) (e) nL xs (D))) := by
  rw [xX6_whole]
  simp (disch := omega) only [px_bd_s, px_psh_s, px_psh_n, px_vb_s, px_ib_s, px_wb_s, px_bo_s, px_bo_n, Bool.cond_decide, cond_true, cond_false, ite_not, Bool.and_true, if_true, if_false, not_true_eq_false, not_false_eq_true, i10, eq_self, decide_true, decide_false, Bool.or_true, Bool.true_or, Bool.or_false, Bool.false_or, za0, zb0, zc0, zd0, ze0, zf0, za1, zb1, zc1, zd1, ze1, zf1, za2, zb2, zc2, zd2, ze2, zf2, za3, zb3, zc3, zd3, ze3, zf3, za4, zb4, zc4, zd4, ze4, zf4, za5, zb5, zc5, zd5, ze5, zf5, za6, zb6, zc6, zd6, ze6, zf6, za7, zb7, zc7, zd7, ze7, zf7, za8, zb8, zc8, zd8, ze8, zf8, za9, zb9, zc9, zd9, ze9, zf9, za10, zb10, zc10, zd10, ze10, zf10, za20, zb20, zc20, zd20, ze20, zf20, za24, zb24, zc24, zd24, ze24, zf24, za39, zb39, zc39, zd39, ze39, zf39, za40, zb40, zc40, zd40, ze40, zf40, za50, zb50, zc50, zd50, ze50, zf50, za51, zb51, zc51, zd51, ze51, zf51, za60, zb60, zc60, zd60, ze60, zf60, za90, zb90, zc90, zd90, ze90, zf90, za99, zb99, zc99, zd99, ze99, zf99, za100, zb100, zc100, zd100, ze100, zf100, za101, zb101, zc101, zd101, ze101, zf101, za120, zb120, zc120, zd120, ze120, zf120, za160, zb160, zc160, zd160, ze160, zf160, za200, zb200, zc200, zd200, ze200, zf200, za400, zb400, zc400, zd400, ze400, zf400, za999, zb999, zc999, zd999, ze999, zf999, za1000, zb1000, zc1000, zd1000, ze1000, zf1000, za1440, zb1440, zc1440, zd1440, ze1440, zf1440, zp1, zp2, zp3, zp8, zp40, zq8, zq10, zq40, nI_leI, nI_ltI, nI_eq, px_inbT, nI_clamp, nI_add, pk_m1, if_pos, if_neg, eX6_whole_0, eX6_whole_0_5, eX6_whole_0_6, sh_it hs, sh_ga]
end S23
section S23b
variable (d : Nat) (J : Nat → Nat → Int64) (R : Nat → Nat → Option Nat) (c e nL : Nat) (xs : Nat → Int32) (D : px_H)
theorem c_make_l {s n : Nat} (hs : s < 4) (hn : n ≤ 40) : ∀ (g i : Nat) (o : Option Value) (M : Nat → Nat → Int32), i + g = n → px_run (px_mk (kX6_make (px_ex px_tab d))) 75 ([some (Value.ref (59)), some (Value.int (nI s)), o, some (Value.int (nI n)), some (Value.int (nI i))], [], (hp (M) (J) (R) (c) (e) nL xs (D))) = some (some (Value.int (1)), (hp (px_uR M (63 + s) (zr (M (63 + s)) i n)) (J) (R) (c) (e) nL xs (D)))
  | 0, i, o, M, hi => by
    rw [eX6_make_75]
    simp (disch := omega) only [px_bd_s, px_psh_s, px_psh_n, px_vb_s, px_ib_s, px_wb_s, px_bo_s, px_bo_n, Bool.cond_decide, cond_true, cond_false, ite_not, Bool.and_true, if_true, if_false, not_true_eq_false, not_false_eq_true, i10, eq_self, decide_true, decide_false, Bool.or_true, Bool.true_or, Bool.or_false, Bool.false_or, za0, zb0, zc0, zd0, ze0, zf0, za1, zb1, zc1, zd1, ze1, zf1, za2, zb2, zc2, zd2, ze2, zf2, za3, zb3, zc3, zd3, ze3, zf3, za4, zb4, zc4, zd4, ze4, zf4, za5, zb5, zc5, zd5, ze5, zf5, za6, zb6, zc6, zd6, ze6, zf6, za7, zb7, zc7, zd7, ze7, zf7, za8, zb8, zc8, zd8, ze8, zf8, za9, zb9, zc9, zd9, ze9, zf9, za10, zb10, zc10, zd10, ze10, zf10, za20, zb20, zc20, zd20, ze20, zf20, za24, zb24, zc24, zd24, ze24, zf24, za39, zb39, zc39, zd39, ze39, zf39, za40, zb40, zc40, zd40, ze40, zf40, za50, zb50, zc50, zd50, ze50, zf50, za51, zb51, zc51, zd51, ze51, zf51, za60, zb60, zc60, zd60, ze60, zf60, za90, zb90, zc90, zd90, ze90, zf90, za99, zb99, zc99, zd99, ze99, zf99, za100, zb100, zc100, zd100, ze100, zf100, za101, zb101, zc101, zd101, ze101, zf101, za120, zb120, zc120, zd120, ze120, zf120, za160, zb160, zc160, zd160, ze160, zf160, za200, zb200, zc200, zd200, ze200, zf200, za400, zb400, zc400, zd400, ze400, zf400, za999, zb999, zc999, zd999, ze999, zf999, za1000, zb1000, zc1000, zd1000, ze1000, zf1000, za1440, zb1440, zc1440, zd1440, ze1440, zf1440, zp1, zp2, zp3, zp8, zp40, zq8, zq10, zq40, nI_leI, nI_ltI, nI_eq, px_inbT, nI_clamp, nI_add, pk_m1, if_pos, if_neg, eX6_make_97]
    rw [show i = n from by omega, zr_0, px_uR_id]
  | g + 1, i, o, M, hi => by
    rw [eX6_make_75]
    simp (disch := omega) only [px_bd_s, px_psh_s, px_psh_n, px_vb_s, px_ib_s, px_wb_s, px_bo_s, px_bo_n, Bool.cond_decide, cond_true, cond_false, ite_not, Bool.and_true, if_true, if_false, not_true_eq_false, not_false_eq_true, i10, eq_self, decide_true, decide_false, Bool.or_true, Bool.true_or, Bool.or_false, Bool.false_or, za0, zb0, zc0, zd0, ze0, zf0, za1, zb1, zc1, zd1, ze1, zf1, za2, zb2, zc2, zd2, ze2, zf2, za3, zb3, zc3, zd3, ze3, zf3, za4, zb4, zc4, zd4, ze4, zf4, za5, zb5, zc5, zd5, ze5, zf5, za6, zb6, zc6, zd6, ze6, zf6, za7, zb7, zc7, zd7, ze7, zf7, za8, zb8, zc8, zd8, ze8, zf8, za9, zb9, zc9, zd9, ze9, zf9, za10, zb10, zc10, zd10, ze10, zf10, za20, zb20, zc20, zd20, ze20, zf20, za24, zb24, zc24, zd24, ze24, zf24, za39, zb39, zc39, zd39, ze39, zf39, za40, zb40, zc40, zd40, ze40, zf40, za50, zb50, zc50, zd50, ze50, zf50, za51, zb51, zc51, zd51, ze51, zf51, za60, zb60, zc60, zd60, ze60, zf60, za90, zb90, zc90, zd90, ze90, zf90, za99, zb99, zc99, zd99, ze99, zf99, za100, zb100, zc100, zd100, ze100, zf100, za101, zb101, zc101, zd101, ze101, zf101, za120, zb120, zc120, zd120, ze120, zf120, za160, zb160, zc160, zd160, ze160, zf160, za200, zb200, zc200, zd200, ze200, zf200, za400, zb400, zc400, zd400, ze400, zf400, za999, zb999, zc999, zd999, ze999, zf999, za1000, zb1000, zc1000, zd1000, ze1000, zf1000, za1440, zb1440, zc1440, zd1440, ze1440, zf1440, zp1, zp2, zp3, zp8, zp40, zq8, zq10, zq40, nI_leI, nI_ltI, nI_eq, px_inbT, nI_clamp, nI_add, pk_m1, if_pos, if_neg, sh_it hs, eX6_make_75_9, sh_pa, eX6_make_75_10]
    rw [c_make_l hs hn g (i + 1) none _ (by omega), px_uR_2, px_uR_s, zr_s _ (by omega)]
theorem m_sheet_l {s : Nat} (hs : s < 4) : ∀ (g k : Nat) (o o' : Option Value) (M : Nat → Nat → Int32), k + g = 40 * s + 40 → px_run (px_mk (kX12_sheet (px_ex px_tab d))) 71 ([some (Value.ref (67)), some (Value.int (nI s)), o, o', some (Value.int (nI k))], [], (hp (M) (J) (R) (c) (e) nL xs (D))) = some (some (Value.int (1)), (hp (px_uR (px_uR M 104 (zr (M 104) k (40 * s + 40))) 105 (zr (M 105) k (40 * s + 40))) (J) (R) (c) (e) nL xs (D)))
  | 0, k, o, o', M, hk => by
    rw [eX12_sheet_71]
    simp (disch := omega) only [px_bd_s, px_psh_s, px_psh_n, px_vb_s, px_ib_s, px_wb_s, px_bo_s, px_bo_n, Bool.cond_decide, cond_true, cond_false, ite_not, Bool.and_true, if_true, if_false, not_true_eq_false, not_false_eq_true, i10, eq_self, decide_true, decide_false, Bool.or_true, Bool.true_or, Bool.or_false, Bool.false_or, za0, zb0, zc0, zd0, ze0, zf0, za1, zb1, zc1, zd1, ze1, zf1, za2, zb2, zc2, zd2, ze2, zf2, za3, zb3, zc3, zd3, ze3, zf3, za4, zb4, zc4, zd4, ze4, zf4, za5, zb5, zc5, zd5, ze5, zf5, za6, zb6, zc6, zd6, ze6, zf6, za7, zb7, zc7, zd7, ze7, zf7, za8, zb8, zc8, zd8, ze8, zf8, za9, zb9, zc9, zd9, ze9, zf9, za10, zb10, zc10, zd10, ze10, zf10, za20, zb20, zc20, zd20, ze20, zf20, za24, zb24, zc24, zd24, ze24, zf24, za39, zb39, zc39, zd39, ze39, zf39, za40, zb40, zc40, zd40, ze40, zf40, za50, zb50, zc50, zd50, ze50, zf50, za51, zb51, zc51, zd51, ze51, zf51, za60, zb60, zc60, zd60, ze60, zf60, za90, zb90, zc90, zd90, ze90, zf90, za99, zb99, zc99, zd99, ze99, zf99, za100, zb100, zc100, zd100, ze100, zf100, za101, zb101, zc101, zd101, ze101, zf101, za120, zb120, zc120, zd120, ze120, zf120, za160, zb160, zc160, zd160, ze160, zf160, za200, zb200, zc200, zd200, ze200, zf200, za400, zb400, zc400, zd400, ze400, zf400, za999, zb999, zc999, zd999, ze999, zf999, za1000, zb1000, zc1000, zd1000, ze1000, zf1000, za1440, zb1440, zc1440, zd1440, ze1440, zf1440, zp1, zp2, zp3, zp8, zp40, zq8, zq10, zq40, nI_leI, nI_ltI, nI_eq, px_inbT, nI_clamp, nI_add, pk_m1, if_pos, if_neg, eX12_sheet_105]
    rw [show k = 40 * s + 40 from by omega, zr_0, zr_0, px_uR_id, px_uR_id]
  | g + 1, k, o, o', M, hk => by
    rw [eX12_sheet_71]
    simp (disch := omega) only [px_bd_s, px_psh_s, px_psh_n, px_vb_s, px_ib_s, px_wb_s, px_bo_s, px_bo_n, Bool.cond_decide, cond_true, cond_false, ite_not, Bool.and_true, if_true, if_false, not_true_eq_false, not_false_eq_true, i10, eq_self, decide_true, decide_false, Bool.or_true, Bool.true_or, Bool.or_false, Bool.false_or, za0, zb0, zc0, zd0, ze0, zf0, za1, zb1, zc1, zd1, ze1, zf1, za2, zb2, zc2, zd2, ze2, zf2, za3, zb3, zc3, zd3, ze3, zf3, za4, zb4, zc4, zd4, ze4, zf4, za5, zb5, zc5, zd5, ze5, zf5, za6, zb6, zc6, zd6, ze6, zf6, za7, zb7, zc7, zd7, ze7, zf7, za8, zb8, zc8, zd8, ze8, zf8, za9, zb9, zc9, zd9, ze9, zf9, za10, zb10, zc10, zd10, ze10, zf10, za20, zb20, zc20, zd20, ze20, zf20, za24, zb24, zc24, zd24, ze24, zf24, za39, zb39, zc39, zd39, ze39, zf39, za40, zb40, zc40, zd40, ze40, zf40, za50, zb50, zc50, zd50, ze50, zf50, za51, zb51, zc51, zd51, ze51, zf51, za60, zb60, zc60, zd60, ze60, zf60, za90, zb90, zc90, zd90, ze90, zf90, za99, zb99, zc99, zd99, ze99, zf99, za100, zb100, zc100, zd100, ze100, zf100, za101, zb101, zc101, zd101, ze101, zf101, za120, zb120, zc120, zd120, ze120, zf120, za160, zb160, zc160, zd160, ze160, zf160, za200, zb200, zc200, zd200, ze200, zf200, za400, zb400, zc400, zd400, ze400, zf400, za999, zb999, zc999, zd999, ze999, zf999, za1000, zb1000, zc1000, zd1000, ze1000, zf1000, za1440, zb1440, zc1440, zd1440, ze1440, zf1440, zp1, zp2, zp3, zp8, zp40, zq8, zq10, zq40, nI_leI, nI_ltI, nI_eq, px_inbT, nI_clamp, nI_add, pk_m1, if_pos, if_neg]
    rw [m_sheet_l hs g (k + 1) none none _ (by omega), px_uR_c]
    show some (some (Value.int (1)), (hp (px_uR (px_uR M 104 (zr (upd (M 104) k 0) (k + 1) (40 * s + 40))) 105 (zr (upd (M 105) k 0) (k + 1) (40 * s + 40))) (J) (R) (c) (e) nL xs (D))) = _
    rw [zr_s _ (by omega), zr_s _ (by omega)]
end S23b
section S23c
variable (d : Nat) (M : Nat → Nat → Int32) (J : Nat → Nat → Int64) (R : Nat → Nat → Option Nat) (c e nL : Nat) (xs : Nat → Int32) (D : px_H)
theorem m_isSheet_y {s : Nat} (hs : s < 4) : px_ex px_tab (d + 2) 251 [Value.int (nI s)] (hp (M) (J) (R) (c) (e) nL xs (D)) = some (some (Value.int (1)), (hp (M) (J) (R) (c) (e) nL xs (D))) := by
  rw [xX12_isSheet]
  simp only [px_bd_s, px_psh_s, px_psh_n, px_vb_s, px_ib_s, px_wb_s, px_bo_s, px_bo_n, Bool.cond_decide, cond_true, cond_false, ite_not, Bool.and_true, if_true, if_false, not_true_eq_false, not_false_eq_true, i10, eq_self, decide_true, decide_false, Bool.or_true, Bool.true_or, Bool.or_false, Bool.false_or, eX12_isSheet_0, eX12_isSheet_0_4, c_in]
  have : px_in (nI s) 0 3 = 1 := if_pos ⟨nI_pos' (by omega), nI_le (b := 3) (by omega) (by decide)⟩
  simp [this]
theorem m_isSheet_n {v : Int32} (hv : v < 0 ∨ 4 ≤ v) : px_ex px_tab (d + 2) 251 [Value.int (v)] (hp (M) (J) (R) (c) (e) nL xs (D)) = some (some (Value.int (0)), (hp (M) (J) (R) (c) (e) nL xs (D))) := by
  rw [xX12_isSheet]
  simp only [px_bd_s, px_psh_s, px_psh_n, px_vb_s, px_ib_s, px_wb_s, px_bo_s, px_bo_n, Bool.cond_decide, cond_true, cond_false, ite_not, Bool.and_true, if_true, if_false, not_true_eq_false, not_false_eq_true, i10, eq_self, decide_true, decide_false, Bool.or_true, Bool.true_or, Bool.or_false, Bool.false_or, eX12_isSheet_0, eX12_isSheet_0_4, c_in]
  have : px_in v 0 3 = 0 := by
    rw [px_in_0]
    rintro ⟨h1, h2⟩
    rcases hv with h | h
    · exact Int32.not_lt.mpr h1 h
    · exact absurd (Int32.le_trans h h2) (by decide)
  simp [this]
/-- SHEET -/
theorem ISh_mk {M M2 : Nat → Nat → Int32} (hI : ISh M) {s n : Nat} (hs : s < 4) (hn : n ≤ 40) (a : Int32) (e60 : M2 60 = upd (M 60) s a) (e102 : M2 102 = upd (M 102) s a) (e61 : M2 61 = upd (M 61) s (nI n)) (e103 : M2 103 = upd (M 103) s (nI n)) (e104 : M2 104 = zr (M 104) (40 * s) (40 * s + 40)) (e105 : M2 105 = zr (M 105) (40 * s) (40 * s + 40)) (er : ∀ t, t < 4 → t ≠ s → M2 (63 + t) = M (63 + t)) (ez : a = 2 → ∀ i, i < n → M2 (63 + s) i = 0) : ISh M2 := by
  intro t ht
  rw [e60, e102, e61, e103, e104, e105]
  by_cases hst : t = s
  · subst hst
    rw [pk_us, pk_us, pk_us, pk_us]
    refine ⟨rfl, ⟨n, hn, rfl, rfl⟩, fun q i hi hq => Or.inl ?_⟩
    rw [zr_in _ (by omega) (by omega), zr_in _ (by omega) (by omega), ez q i ((nI_ltI (by omega) (by omega)).mp hq)]
    exact ⟨rfl, rfl, by decide⟩
  · rw [pk_un hst, pk_un hst, pk_un hst, pk_un hst, er t ht hst]
    obtain ⟨j60, j61, jrow⟩ := hI t ht
    refine ⟨j60, j61, fun q i hi hq => ?_⟩
    rw [zr_out _ (by omega), zr_out _ (by omega)]
    exact jrow q i hi hq
theorem t_sheet (hI : ISh M) (v1 v2 v3 : Int32) : ∃ w M1 M2, px_ex px_tab (d + 4) 160 [Value.ref (13), Value.int (v1), Value.int (v2), Value.int (v3)] (hp (M) (J) (R) (c) (e) nL xs (D)) = some (some (Value.int (w)), (hp (M1) (J) (R) (c) (e) nL xs (D))) ∧ px_ex px_tab (d + 4) 252 [Value.ref (67), Value.int (v1), Value.int (v2), Value.int (v3)] (hp (M1) (J) (R) (c) (e) nL xs (D)) = some (some (Value.int (w)), (hp (M2) (J) (R) (c) (e) nL xs (D))) ∧ ISh M2 ∧ frm [60, 61, 63, 64, 65, 66, 102, 103, 104, 105] [] M M2 := by
  rcases pk_ix v1 (n := 4) (by decide) with h1 | h1 | ⟨s, hs, rfl⟩
  · refine ⟨-2, M, M, ?_, ?_, hI, frm.rf _ _ _⟩
    · rw [xX11_sheet]
      simp [px_bd_s, px_psh_s, px_psh_n, px_vb_s, px_ib_s, px_wb_s, px_bo_s, px_bo_n, Bool.cond_decide, cond_true, cond_false, ite_not, Bool.and_true, if_true, if_false, not_true_eq_false, not_false_eq_true, i10, eq_self, decide_true, decide_false, Bool.or_true, Bool.true_or, Bool.or_false, Bool.false_or, eX11_sheet_0, eX11_sheet_0_6, xX6_make, eX6_make_0, eX6_make_0_3, eX6_make_18, eX6_make_21, eX6_make_42, eX6_make_51, eX6_make_58, eX6_make_97, eX6_make_75_9, eX6_make_75_10, c_has_n _ _ _ _ _ _ _ _ _ (Or.inl h1)]
    · rw [xX12_sheet]
      simp [px_bd_s, px_psh_s, px_psh_n, px_vb_s, px_ib_s, px_wb_s, px_bo_s, px_bo_n, Bool.cond_decide, cond_true, cond_false, ite_not, Bool.and_true, if_true, if_false, not_true_eq_false, not_false_eq_true, i10, eq_self, decide_true, decide_false, Bool.or_true, Bool.true_or, Bool.or_false, Bool.false_or, eX12_sheet_0, eX12_sheet_0_2, eX12_sheet_27, eX12_sheet_0_7, eX12_sheet_30, eX12_sheet_42, eX12_sheet_63, eX12_sheet_64, eX12_sheet_105, m_isSheet_n _ _ _ _ _ _ _ _ _ (Or.inl h1)]
  · refine ⟨-2, M, M, ?_, ?_, hI, frm.rf _ _ _⟩
    · rw [xX11_sheet]
      simp [px_bd_s, px_psh_s, px_psh_n, px_vb_s, px_ib_s, px_wb_s, px_bo_s, px_bo_n, Bool.cond_decide, cond_true, cond_false, ite_not, Bool.and_true, if_true, if_false, not_true_eq_false, not_false_eq_true, i10, eq_self, decide_true, decide_false, Bool.or_true, Bool.true_or, Bool.or_false, Bool.false_or, eX11_sheet_0, eX11_sheet_0_6, xX6_make, eX6_make_0, eX6_make_0_3, eX6_make_18, eX6_make_21, eX6_make_42, eX6_make_51, eX6_make_58, eX6_make_97, eX6_make_75_9, eX6_make_75_10, c_has_n _ _ _ _ _ _ _ _ _ (Or.inr h1)]
    · rw [xX12_sheet]
      simp [px_bd_s, px_psh_s, px_psh_n, px_vb_s, px_ib_s, px_wb_s, px_bo_s, px_bo_n, Bool.cond_decide, cond_true, cond_false, ite_not, Bool.and_true, if_true, if_false, not_true_eq_false, not_false_eq_true, i10, eq_self, decide_true, decide_false, Bool.or_true, Bool.true_or, Bool.or_false, Bool.false_or, eX12_sheet_0, eX12_sheet_0_2, eX12_sheet_27, eX12_sheet_0_7, eX12_sheet_30, eX12_sheet_42, eX12_sheet_63, eX12_sheet_64, eX12_sheet_105, m_isSheet_n _ _ _ _ _ _ _ _ _ (Or.inr h1)]
  · by_cases h2 : v2 < -1 ∨ ¬ v2 ≤ 2
    · have hin : px_in v2 (-1) 2 = 0 := by
        rw [px_in_0]
        rintro ⟨h3, h4⟩
        rcases h2 with h | h
        · exact Int32.not_lt.mpr h3 h
        · exact h h4
      refine ⟨-2, M, M, ?_, ?_, hI, frm.rf _ _ _⟩
      · rw [xX11_sheet]
        simp only [px_bd_s, px_psh_s, px_psh_n, px_vb_s, px_ib_s, px_wb_s, px_bo_s, px_bo_n, Bool.cond_decide, cond_true, cond_false, ite_not, Bool.and_true, if_true, if_false, not_true_eq_false, not_false_eq_true, i10, eq_self, decide_true, decide_false, Bool.or_true, Bool.true_or, Bool.or_false, Bool.false_or, eX11_sheet_0, eX11_sheet_0_6, xX6_make, eX6_make_0, eX6_make_0_3, eX6_make_18, eX6_make_21, eX6_make_42, eX6_make_51, eX6_make_58, eX6_make_97, eX6_make_75_9, eX6_make_75_10, c_has_y _ _ _ _ _ _ _ _ _ hs]
        by_cases h3 : v2 < -1
        · simp [px_bd_s, px_psh_s, px_psh_n, px_vb_s, px_ib_s, px_wb_s, px_bo_s, px_bo_n, Bool.cond_decide, cond_true, cond_false, ite_not, Bool.and_true, if_true, if_false, not_true_eq_false, not_false_eq_true, i10, eq_self, decide_true, decide_false, Bool.or_true, Bool.true_or, Bool.or_false, Bool.false_or, h3, eX11_sheet_0, eX11_sheet_0_6]
        · simp [px_bd_s, px_psh_s, px_psh_n, px_vb_s, px_ib_s, px_wb_s, px_bo_s, px_bo_n, Bool.cond_decide, cond_true, cond_false, ite_not, Bool.and_true, if_true, if_false, not_true_eq_false, not_false_eq_true, i10, eq_self, decide_true, decide_false, Bool.or_true, Bool.true_or, Bool.or_false, Bool.false_or, h3, h2.resolve_left h3, eX11_sheet_0, eX11_sheet_0_6]
      · rw [xX12_sheet]
        simp [px_bd_s, px_psh_s, px_psh_n, px_vb_s, px_ib_s, px_wb_s, px_bo_s, px_bo_n, Bool.cond_decide, cond_true, cond_false, ite_not, Bool.and_true, if_true, if_false, not_true_eq_false, not_false_eq_true, i10, eq_self, decide_true, decide_false, Bool.or_true, Bool.true_or, Bool.or_false, Bool.false_or, eX12_sheet_0, eX12_sheet_0_2, eX12_sheet_27, eX12_sheet_0_7, eX12_sheet_30, eX12_sheet_42, eX12_sheet_63, eX12_sheet_64, eX12_sheet_105, m_isSheet_y _ _ _ _ _ _ _ _ _ hs, c_in, hin]
    · have h3 : ¬ v2 < -1 := fun q => h2 (Or.inl q)
      have h4 : v2 ≤ 2 := Decidable.not_not.mp fun q => h2 (Or.inr q)
      have hin : px_in v2 (-1) 2 = 1 := if_pos ⟨Int32.not_lt.mp h3, h4⟩
      by_cases h5 : v2 = -1
      · subst h5
        refine ⟨1, px_uR (px_uR M 60 (upd (M 60) s (-1))) 61 (upd (M 61) s 0), px_uR (px_uR (px_uR (px_uR (px_uR (px_uR M 60 (upd (M 60) s (-1))) 61 (upd (M 61) s 0)) 102 (upd (M 102) s (-1))) 103 (upd (M 103) s 0)) 104 (zr (M 104) (40 * s) (40 * s + 40))) 105 (zr (M 105) (40 * s) (40 * s + 40)), ?_, ?_, ?_, ?_⟩
        · rw [xX11_sheet]
          simp (disch := omega) only [px_bd_s, px_psh_s, px_psh_n, px_vb_s, px_ib_s, px_wb_s, px_bo_s, px_bo_n, Bool.cond_decide, cond_true, cond_false, ite_not, Bool.and_true, if_true, if_false, not_true_eq_false, not_false_eq_true, i10, eq_self, decide_true, decide_false, Bool.or_true, Bool.true_or, Bool.or_false, Bool.false_or, eX11_sheet_0, eX11_sheet_0_6, xX6_make, eX6_make_0, eX6_make_0_3, eX6_make_18, eX6_make_21, eX6_make_42, eX6_make_51, eX6_make_58, eX6_make_97, eX6_make_75_9, eX6_make_75_10, c_has_y _ _ _ _ _ _ _ _ _ hs, px_inbT, nI_clamp]
          simp [px_bd_s, px_psh_s, px_psh_n, px_vb_s, px_ib_s, px_wb_s, px_bo_s, px_bo_n, Bool.cond_decide, cond_true, cond_false, ite_not, Bool.and_true, if_true, if_false, not_true_eq_false, not_false_eq_true, i10, eq_self, decide_true, decide_false, Bool.or_true, Bool.true_or, Bool.or_false, Bool.false_or, eX11_sheet_0, eX11_sheet_0_6]
        · rw [xX12_sheet]
          simp (disch := omega) only [px_bd_s, px_psh_s, px_psh_n, px_vb_s, px_ib_s, px_wb_s, px_bo_s, px_bo_n, Bool.cond_decide, cond_true, cond_false, ite_not, Bool.and_true, if_true, if_false, not_true_eq_false, not_false_eq_true, i10, eq_self, decide_true, decide_false, Bool.or_true, Bool.true_or, Bool.or_false, Bool.false_or, eX12_sheet_0, eX12_sheet_0_2, eX12_sheet_27, eX12_sheet_0_7, eX12_sheet_30, eX12_sheet_42, eX12_sheet_63, eX12_sheet_64, eX12_sheet_105, m_isSheet_y _ _ _ _ _ _ _ _ _ hs, c_in, hin, px_inbT, nI_clamp, zq40, m_sheet_l _ _ _ _ _ _ _ _ hs 40]
          all_goals simp
          rfl
        · refine ISh_mk hI hs (n := 0) (by decide) (-1) rfl rfl rfl rfl rfl rfl (fun t ht hts => ?_) (fun q => absurd q (by decide))
          simp (disch := omega) only [px_uR_n]
        · exact (((((((frm.rf _ _ _).u 60 _ (by decide) (by decide)).u 61 _ (by decide) (by decide)).u 102 _ (by decide) (by decide)).u 103 _ (by decide) (by decide)).u 104 _ (by decide) (by decide)).u 105 _ (by decide) (by decide))
      · by_cases h6 : v3 ≤ 40
        · by_cases h7 : 0 ≤ v3
          · obtain ⟨n, hn, rfl⟩ := nI_of2 (x := v3) (M := 40) (n := 40) (by decide) (Int32.not_lt.mpr h7) h6
            refine ⟨1, px_uR (px_uR (px_uR M 60 (upd (M 60) s v2)) 61 (upd (M 61) s (nI n))) (63 + s) (zr (M (63 + s)) 0 n), px_uR (px_uR (px_uR (px_uR (px_uR (px_uR (px_uR M 60 (upd (M 60) s v2)) 61 (upd (M 61) s (nI n))) (63 + s) (zr (M (63 + s)) 0 n)) 102 (upd (M 102) s v2)) 103 (upd (M 103) s (nI n))) 104 (zr (M 104) (40 * s) (40 * s + 40))) 105 (zr (M 105) (40 * s) (40 * s + 40)), ?_, ?_, ?_, ?_⟩
            · rw [xX11_sheet]
              simp (disch := omega) only [px_bd_s, px_psh_s, px_psh_n, px_vb_s, px_ib_s, px_wb_s, px_bo_s, px_bo_n, Bool.cond_decide, cond_true, cond_false, ite_not, Bool.and_true, if_true, if_false, not_true_eq_false, not_false_eq_true, i10, eq_self, decide_true, decide_false, Bool.or_true, Bool.true_or, Bool.or_false, Bool.false_or, eX11_sheet_0, eX11_sheet_0_6, xX6_make, eX6_make_0, eX6_make_0_3, eX6_make_18, eX6_make_21, eX6_make_42, eX6_make_51, eX6_make_58, eX6_make_97, eX6_make_75_9, eX6_make_75_10, c_has_y _ _ _ _ _ _ _ _ _ hs, px_inbT, nI_clamp, h3, h4, h5, h6, h7]
              have e := c_make_l (d + 2) J R c e nL xs D hs hn n 0 (some (.int v2)) (px_uR (px_uR M 60 (upd (M 60) s v2)) 61 (upd (M 61) s (nI n))) (by omega)
              rw [nI_0] at e
              simp (disch := omega) only [px_uR_n] at e
              simp [px_bd_s, px_psh_s, px_psh_n, px_vb_s, px_ib_s, px_wb_s, px_bo_s, px_bo_n, Bool.cond_decide, cond_true, cond_false, ite_not, Bool.and_true, if_true, if_false, not_true_eq_false, not_false_eq_true, i10, eq_self, decide_true, decide_false, Bool.or_true, Bool.true_or, Bool.or_false, Bool.false_or, eX11_sheet_0, eX11_sheet_0_6, e]
            · have hM : ∀ a, a = 102 ∨ a = 103 ∨ a = 104 ∨ a = 105 → (px_uR (px_uR (px_uR M 60 (upd (M 60) s v2)) 61 (upd (M 61) s (nI n))) (63 + s) (zr (M (63 + s)) 0 n)) a = M a := by
                intro a ha
                simp (disch := omega) only [px_uR_n]
              rw [xX12_sheet]
              simp (disch := omega) only [px_bd_s, px_psh_s, px_psh_n, px_vb_s, px_ib_s, px_wb_s, px_bo_s, px_bo_n, Bool.cond_decide, cond_true, cond_false, ite_not, Bool.and_true, if_true, if_false, not_true_eq_false, not_false_eq_true, i10, eq_self, decide_true, decide_false, Bool.or_true, Bool.true_or, Bool.or_false, Bool.false_or, eX12_sheet_0, eX12_sheet_0_2, eX12_sheet_27, eX12_sheet_0_7, eX12_sheet_30, eX12_sheet_42, eX12_sheet_63, eX12_sheet_64, eX12_sheet_105, m_isSheet_y _ _ _ _ _ _ _ _ _ hs, c_in, hin, px_inbT, nI_clamp, zq40, m_sheet_l _ _ _ _ _ _ _ _ hs 40, h5, h6, h7, hM, px_uR_n]
              all_goals simp
            · refine ISh_mk hI hs hn v2 ?_ ?_ ?_ ?_ ?_ ?_ (fun t ht hts => ?_) (fun q i hi => ?_)
              all_goals simp (disch := omega) only [px_uR_n, px_uR_s]
              exact zr_in _ (by omega) hi
            · exact ((((((((frm.rf _ _ _).u 60 _ (by decide) (by decide)).u 61 _ (by decide) (by decide)).u (63 + s) _ (by simp; omega) (by omega)).u 102 _ (by decide) (by decide)).u 103 _ (by decide) (by decide)).u 104 _ (by decide) (by decide)).u 105 _ (by decide) (by decide))
          · refine ⟨-14, M, M, ?_, ?_, hI, frm.rf _ _ _⟩
            · rw [xX11_sheet]
              simp [px_bd_s, px_psh_s, px_psh_n, px_vb_s, px_ib_s, px_wb_s, px_bo_s, px_bo_n, Bool.cond_decide, cond_true, cond_false, ite_not, Bool.and_true, if_true, if_false, not_true_eq_false, not_false_eq_true, i10, eq_self, decide_true, decide_false, Bool.or_true, Bool.true_or, Bool.or_false, Bool.false_or, eX11_sheet_0, eX11_sheet_0_6, xX6_make, eX6_make_0, eX6_make_0_3, eX6_make_18, eX6_make_21, eX6_make_42, eX6_make_51, eX6_make_58, eX6_make_97, eX6_make_75_9, eX6_make_75_10, c_has_y _ _ _ _ _ _ _ _ _ hs, h3, h4, h5, h6, h7]
            · rw [xX12_sheet]
              simp [px_bd_s, px_psh_s, px_psh_n, px_vb_s, px_ib_s, px_wb_s, px_bo_s, px_bo_n, Bool.cond_decide, cond_true, cond_false, ite_not, Bool.and_true, if_true, if_false, not_true_eq_false, not_false_eq_true, i10, eq_self, decide_true, decide_false, Bool.or_true, Bool.true_or, Bool.or_false, Bool.false_or, eX12_sheet_0, eX12_sheet_0_2, eX12_sheet_27, eX12_sheet_0_7, eX12_sheet_30, eX12_sheet_42, eX12_sheet_63, eX12_sheet_64, eX12_sheet_105, m_isSheet_y _ _ _ _ _ _ _ _ _ hs, c_in, hin, h5, h6, h7]
        · refine ⟨-2, M, M, ?_, ?_, hI, frm.rf _ _ _⟩
          · rw [xX11_sheet]
            simp [px_bd_s, px_psh_s, px_psh_n, px_vb_s, px_ib_s, px_wb_s, px_bo_s, px_bo_n, Bool.cond_decide, cond_true, cond_false, ite_not, Bool.and_true, if_true, if_false, not_true_eq_false, not_false_eq_true, i10, eq_self, decide_true, decide_false, Bool.or_true, Bool.true_or, Bool.or_false, Bool.false_or, eX11_sheet_0, eX11_sheet_0_6, xX6_make, eX6_make_0, eX6_make_0_3, eX6_make_18, eX6_make_21, eX6_make_42, eX6_make_51, eX6_make_58, eX6_make_97, eX6_make_75_9, eX6_make_75_10, c_has_y _ _ _ _ _ _ _ _ _ hs, h3, h4, h5, h6]
          · rw [xX12_sheet]
            simp [px_bd_s, px_psh_s, px_psh_n, px_vb_s, px_ib_s, px_wb_s, px_bo_s, px_bo_n, Bool.cond_decide, cond_true, cond_false, ite_not, Bool.and_true, if_true, if_false, not_true_eq_false, not_false_eq_true, i10, eq_self, decide_true, decide_false, Bool.or_true, Bool.true_or, Bool.or_false, Bool.false_or, eX12_sheet_0, eX12_sheet_0_2, eX12_sheet_27, eX12_sheet_0_7, eX12_sheet_30, eX12_sheet_42, eX12_sheet_63, eX12_sheet_64, eX12_sheet_105, m_isSheet_y _ _ _ _ _ _ _ _ _ hs, c_in, hin, h5, h6]
end S23c
