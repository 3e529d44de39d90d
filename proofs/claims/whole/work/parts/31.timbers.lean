/-! PART 31: TIMBERS: bonds and shifts -/
def sh2 (ha hb : Nat → Int32) (nb : Nat) (s : Int32) : Nat → Nat → Int32 → Int32
  | 0, _, a => a
  | g + 1, i, a => sh2 ha hb nb s g (i + 1) (ac (fun j => if hb j = ha i + s then 1 else 0) nb 0 a)
theorem sh2_s (ha hb : Nat → Int32) (nb : Nat) (s : Int32) (g i : Nat) (a : Int32) : sh2 ha hb nb s (g + 1) i a = sh2 ha hb nb s g (i + 1) (ac (fun j => if hb j = ha i + s then 1 else 0) nb 0 a) := rfl
theorem sh2_c {ha hb ha' hb' : Nat → Int32} {nb : Nat} (s : Int32) (h2 : ∀ j, j < nb → hb j = hb' j) : ∀ (g i : Nat) (a : Int32), (∀ k, i ≤ k → k < i + g → ha k = ha' k) → sh2 ha hb nb s g i a = sh2 ha' hb' nb s g i a
  | 0, _, _, _ => rfl
  | g + 1, i, a, h => by
    rw [sh2_s, sh2_s]
    rw [h i (Nat.le_refl _) (by omega), ac_c nb 0 a (f' := fun j => if hb' j = ha' i + s then 1 else 0) (fun j _ hj => by rw [h2 j (by omega)])]
    exact sh2_c s h2 g (i + 1) _ (fun k h3 h4 => h k (by omega) (by omega))
theorem ac_01 {f : Nat → Int32} (hf : ∀ k, f k = 0 ∨ f k = 1) : ∀ (g k a : Nat), ∃ S, S ≤ g ∧ ac f g k (nI a) = nI (a + S)
  | 0, _, a => ⟨0, Nat.le_refl _, rfl⟩
  | g + 1, k, a => by
    rw [ac_s]
    rcases hf k with h | h
    · obtain ⟨S, h1, h2⟩ := ac_01 hf g (k + 1) a
      exact ⟨S, by omega, by rw [h, Int32.add_zero, h2]⟩
    · obtain ⟨S, h1, h2⟩ := ac_01 hf g (k + 1) (a + 1)
      exact ⟨S + 1, by omega, by rw [h, ← nI_succ, h2, show a + 1 + S = a + (S + 1) from by omega]⟩
theorem sh2_n (ha hb : Nat → Int32) (nb : Nat) (s : Int32) : ∀ (g i a : Nat), ∃ S, S ≤ nb * g ∧ sh2 ha hb nb s g i (nI a) = nI (a + S)
  | 0, _, a => ⟨0, Nat.zero_le _, rfl⟩
  | g + 1, i, a => by
    rw [sh2_s]
    obtain ⟨S, h1, h2⟩ := ac_01 (f := fun j => if hb j = ha i + s then 1 else 0) (fun k => by split; exact Or.inr rfl; exact Or.inl rfl) nb 0 a
    obtain ⟨T, h3, h4⟩ := sh2_n ha hb nb s g (i + 1) (a + S)
    refine ⟨S + T, ?_, ?_⟩
    · rw [Nat.mul_succ]; omega
    · rw [h2, h4, show a + S + T = a + (S + T) from by omega]
/-- numbers from -50 to 50, as places -/
theorem sm {x : Nat} (h : x ≤ 100) : (nI x - 50).toInt = (x : Int) - 50 := by
  rw [Int32.toInt_sub, nI_toInt (by omega), show (50 : Int32).toInt = 50 from rfl]
  exact Int.bmod_eq_of_le (by omega) (by omega)
theorem sm_or (y : Int32) : (y < -50 ∧ ∀ x, x ≤ 100 → ¬ y = nI x - 50) ∨ (¬ y < -50 ∧ 50 < y ∧ ∀ x, x ≤ 100 → ¬ y = nI x - 50) ∨ (¬ y < -50 ∧ ¬ 50 < y ∧ ∃ x, x ≤ 100 ∧ y = nI x - 50) := by
  have e1 : (-50 : Int32).toInt = -50 := rfl
  have e2 : (50 : Int32).toInt = 50 := rfl
  by_cases h1 : y < -50
  · refine Or.inl ⟨h1, fun x hx q => ?_⟩
    have := Int32.lt_iff_toInt_lt.mp h1
    rw [q, sm hx, e1] at this
    omega
  · by_cases h2 : 50 < y
    · refine Or.inr (Or.inl ⟨h1, h2, fun x hx q => ?_⟩)
      have := Int32.lt_iff_toInt_lt.mp h2
      rw [q, sm hx, e2] at this
      omega
    · refine Or.inr (Or.inr ⟨h1, h2, (y.toInt + 50).toNat, ?_, ?_⟩)
      · have a1 := Int32.le_iff_toInt_le.mp (Int32.not_lt.mp h1)
        have a2 := Int32.le_iff_toInt_le.mp (Int32.not_lt.mp h2)
        rw [e1] at a1
        rw [e2] at a2
        omega
      · have a1 := Int32.le_iff_toInt_le.mp (Int32.not_lt.mp h1)
        have a2 := Int32.le_iff_toInt_le.mp (Int32.not_lt.mp h2)
        rw [e1] at a1
        rw [e2] at a2
        apply Int32.toInt_inj.mp
        rw [sm (by omega)]
        omega
theorem sm_50 (x : Nat) : 50 + (nI x - 50) = nI x := by
  rw [Int32.add_comm, Int32.sub_add_cancel]
theorem sm_eq {x x' : Nat} (h : x ≤ 100) (h' : x' ≤ 100) (e : nI x - 50 = nI x' - 50) : x = x' := by
  have := congrArg Int32.toInt e
  rw [sm h, sm h'] at this
  omega
theorem sm_n {k : Nat} (h : k ≤ 50) : -nI k = nI (50 - k) - 50 := by
  apply Int32.toInt_inj.mp
  rw [sm (by omega), Int32.toInt_neg, nI_toInt (by omega), Int.bmod_eq_of_le (by omega) (by omega)]
  omega
theorem sm_p {k : Nat} (h : k ≤ 50) : nI k = nI (50 + k) - 50 := by
  apply Int32.toInt_inj.mp
  rw [sm (by omega), nI_toInt (by omega)]
  omega
def rwB (B : Int32 → Int32) (o : Nat → Int32) : Nat → Int32 := fun x => if x ≤ 100 then B (nI x - 50) else o x
theorem rwB_0 (o : Nat → Int32) : zr o 0 101 = rwB (fun _ => 0) o := by
  funext x
  unfold zr rwB
  by_cases h : x ≤ 100
  · rw [if_pos h, if_pos (by omega)]
  · rw [if_neg h, if_neg (by omega)]
theorem rwB_in (B : Int32 → Int32) (o : Nat → Int32) (u v : Int32) {x : Nat} (hx : x ≤ 100) (h : u - v = nI x - 50) : upd (rwB B o) x (rwB B o x + 1) = rwB (fun s => B s + if u = v + s then 1 else 0) o := by
  funext z
  unfold upd
  by_cases hz : z = x
  · subst hz
    rw [if_pos rfl]
    unfold rwB
    rw [if_pos hx, if_pos hx]
    dsimp only
    rw [if_pos (show u = v + (nI z - 50) by rw [← h, Int32.add_comm, Int32.sub_add_cancel])]
  · rw [if_neg hz]
    unfold rwB
    by_cases h1 : z ≤ 100
    · rw [if_pos h1, if_pos h1]
      dsimp only
      rw [if_neg, Int32.add_zero]
      intro q
      apply hz
      apply sm_eq h1 hx
      rw [← h, q, Int32.add_comm, Int32.add_sub_cancel]
    · rw [if_neg h1, if_neg h1]
theorem rwB_out (B : Int32 → Int32) (o : Nat → Int32) (u v : Int32) (h : ∀ x, x ≤ 100 → ¬ u - v = nI x - 50) : rwB B o = rwB (fun s => B s + if u = v + s then 1 else 0) o := by
  funext z
  unfold rwB
  by_cases h1 : z ≤ 100
  · rw [if_pos h1, if_pos h1]
    dsimp only
    rw [if_neg, Int32.add_zero]
    intro q
    apply h z h1
    rw [q, Int32.add_comm, Int32.add_sub_cancel]
  · rw [if_neg h1, if_neg h1]
def tkB (B : Int32 → Int32) (s : Int32) (p : Int32 × Int32) : Int32 × Int32 := if B s ≤ p.1 then p else (B s, s)
def flB (B : Int32 → Int32) : Nat → Nat → Int32 × Int32 → Int32 × Int32
  | 0, _, p => p
  | g + 1, k, p => flB B g (k + 1) (tkB B (nI k) (tkB B (-nI k) p))
def stB (M : Nat → Nat → Int32) (p : Int32 × Int32) : Nat → Nat → Int32 := px_uR M 49 (upd (upd (M 49) 1 p.1) 2 p.2)
section S31
variable (d : Nat) (J : Nat → Nat → Int64) (R : Nat → Nat → Option Nat) (c e nL : Nat) (xs : Nat → Int32) (D : px_H)
theorem c_zero_l (f f' : Nat) : ∀ (g k : Nat) (o o' : Option Value) (M : Nat → Nat → Int32), k + g = 101 → px_run (px_mk (kX8_match (px_ex px_tab d))) 2 ([some (Value.ref (49)), some (Value.ref (f)), some (Value.ref (f')), some (Value.int (nI k)), o, o'], [], (hp (M) (J) (R) (c) (e) nL xs (D))) = px_run (px_mk (kX8_match (px_ex px_tab d))) 26 ([some (Value.ref (49)), some (Value.ref (f)), some (Value.ref (f')), some (Value.int (nI 0)), none, none], [], (hp (px_uR M 50 (zr (M 50) k 101)) (J) (R) (c) (e) nL xs (D)))
  | 0, k, o, o', M, hk => by
    rw [eX8_match_2, show Int32.ofNat 101 = nI 101 from rfl]
    simp (disch := omega) only [px_bd_s, px_psh_s, px_psh_n, px_vb_s, px_ib_s, px_wb_s, px_bo_s, px_bo_n, Bool.cond_decide, cond_true, cond_false, ite_not, Bool.and_true, if_true, if_false, not_true_eq_false, not_false_eq_true, i10, eq_self, decide_true, decide_false, Bool.or_true, Bool.true_or, Bool.or_false, Bool.false_or, za0, zb0, zc0, zd0, ze0, zf0, za1, zb1, zc1, zd1, ze1, zf1, za2, zb2, zc2, zd2, ze2, zf2, za3, zb3, zc3, zd3, ze3, zf3, za4, zb4, zc4, zd4, ze4, zf4, za5, zb5, zc5, zd5, ze5, zf5, za6, zb6, zc6, zd6, ze6, zf6, za7, zb7, zc7, zd7, ze7, zf7, za8, zb8, zc8, zd8, ze8, zf8, za9, zb9, zc9, zd9, ze9, zf9, za10, zb10, zc10, zd10, ze10, zf10, za20, zb20, zc20, zd20, ze20, zf20, za24, zb24, zc24, zd24, ze24, zf24, za39, zb39, zc39, zd39, ze39, zf39, za40, zb40, zc40, zd40, ze40, zf40, za50, zb50, zc50, zd50, ze50, zf50, za51, zb51, zc51, zd51, ze51, zf51, za60, zb60, zc60, zd60, ze60, zf60, za90, zb90, zc90, zd90, ze90, zf90, za99, zb99, zc99, zd99, ze99, zf99, za100, zb100, zc100, zd100, ze100, zf100, za101, zb101, zc101, zd101, ze101, zf101, za120, zb120, zc120, zd120, ze120, zf120, za160, zb160, zc160, zd160, ze160, zf160, za200, zb200, zc200, zd200, ze200, zf200, za400, zb400, zc400, zd400, ze400, zf400, za999, zb999, zc999, zd999, ze999, zf999, za1000, zb1000, zc1000, zd1000, ze1000, zf1000, za1440, zb1440, zc1440, zd1440, ze1440, zf1440, zp1, zp2, zp3, zp8, zp40, zq8, zq10, zq40, nI_leI, nI_ltI, nI_eq, px_inbT, nI_clamp, nI_add, pk_m1, if_pos, if_neg, eX8_match_24]
    rw [show k = 101 from by omega, zr_0, px_uR_id]
    rfl
  | g + 1, k, o, o', M, hk => by
    rw [eX8_match_2, show Int32.ofNat 101 = nI 101 from rfl]
    simp (disch := omega) only [px_bd_s, px_psh_s, px_psh_n, px_vb_s, px_ib_s, px_wb_s, px_bo_s, px_bo_n, Bool.cond_decide, cond_true, cond_false, ite_not, Bool.and_true, if_true, if_false, not_true_eq_false, not_false_eq_true, i10, eq_self, decide_true, decide_false, Bool.or_true, Bool.true_or, Bool.or_false, Bool.false_or, za0, zb0, zc0, zd0, ze0, zf0, za1, zb1, zc1, zd1, ze1, zf1, za2, zb2, zc2, zd2, ze2, zf2, za3, zb3, zc3, zd3, ze3, zf3, za4, zb4, zc4, zd4, ze4, zf4, za5, zb5, zc5, zd5, ze5, zf5, za6, zb6, zc6, zd6, ze6, zf6, za7, zb7, zc7, zd7, ze7, zf7, za8, zb8, zc8, zd8, ze8, zf8, za9, zb9, zc9, zd9, ze9, zf9, za10, zb10, zc10, zd10, ze10, zf10, za20, zb20, zc20, zd20, ze20, zf20, za24, zb24, zc24, zd24, ze24, zf24, za39, zb39, zc39, zd39, ze39, zf39, za40, zb40, zc40, zd40, ze40, zf40, za50, zb50, zc50, zd50, ze50, zf50, za51, zb51, zc51, zd51, ze51, zf51, za60, zb60, zc60, zd60, ze60, zf60, za90, zb90, zc90, zd90, ze90, zf90, za99, zb99, zc99, zd99, ze99, zf99, za100, zb100, zc100, zd100, ze100, zf100, za101, zb101, zc101, zd101, ze101, zf101, za120, zb120, zc120, zd120, ze120, zf120, za160, zb160, zc160, zd160, ze160, zf160, za200, zb200, zc200, zd200, ze200, zf200, za400, zb400, zc400, zd400, ze400, zf400, za999, zb999, zc999, zd999, ze999, zf999, za1000, zb1000, zc1000, zd1000, ze1000, zf1000, za1440, zb1440, zc1440, zd1440, ze1440, zf1440, zp1, zp2, zp3, zp8, zp40, zq8, zq10, zq40, nI_leI, nI_ltI, nI_eq, px_inbT, nI_clamp, nI_add, pk_m1, if_pos, if_neg]
    rw [c_zero_l f f' g (k + 1) none none _ (by omega), px_uR_2]
    show px_run (px_mk (kX8_match (px_ex px_tab d))) 26 ([some (Value.ref (49)), some (Value.ref (f)), some (Value.ref (f')), some (Value.int (nI 0)), none, none], [], (hp (px_uR M 50 (zr (upd (M 50) k 0) (k + 1) 101)) (J) (R) (c) (e) nL xs (D))) = _
    rw [zr_s _ (by omega)]
theorem c_mj_l {p q na nb i : Nat} {F ha F' hb o : Nat → Int32} (h : fdAt D p F ha) (h' : fdAt D q F' hb) (hna : na ≤ 8) (hnb : nb ≤ 8) (e4' : F' 4 = nI nb) (hi : i < na) : ∀ (g j : Nat) (B : Int32 → Int32) (o5 : Option Value) (M : Nat → Nat → Int32), M 50 = rwB B o → j + g = nb → px_run (px_mk (kX8_match (px_ex px_tab d))) 37 ([some (Value.ref (49)), some (Value.ref (111 + p)), some (Value.ref (111 + q)), some (Value.int (nI i)), some (Value.int (nI j)), o5], [], (hp (M) (J) (R) (c) (e) nL xs (D))) = px_run (px_mk (kX8_match (px_ex px_tab d))) 26 ([some (Value.ref (49)), some (Value.ref (111 + p)), some (Value.ref (111 + q)), some (Value.int (nI (i + 1))), none, none], [], (hp (px_uR M 50 (rwB (fun s => ac (fun j => if hb j = ha i + s then 1 else 0) g j (B s)) o)) (J) (R) (c) (e) nL xs (D)))
  | 0, j, B, o5, M, hM, hj => by
    rw [eX8_match_37]
    simp (disch := omega) only [px_bd_s, px_psh_s, px_psh_n, px_vb_s, px_ib_s, px_wb_s, px_bo_s, px_bo_n, Bool.cond_decide, cond_true, cond_false, ite_not, Bool.and_true, if_true, if_false, not_true_eq_false, not_false_eq_true, i10, eq_self, decide_true, decide_false, Bool.or_true, Bool.true_or, Bool.or_false, Bool.false_or, za0, zb0, zc0, zd0, ze0, zf0, za1, zb1, zc1, zd1, ze1, zf1, za2, zb2, zc2, zd2, ze2, zf2, za3, zb3, zc3, zd3, ze3, zf3, za4, zb4, zc4, zd4, ze4, zf4, za5, zb5, zc5, zd5, ze5, zf5, za6, zb6, zc6, zd6, ze6, zf6, za7, zb7, zc7, zd7, ze7, zf7, za8, zb8, zc8, zd8, ze8, zf8, za9, zb9, zc9, zd9, ze9, zf9, za10, zb10, zc10, zd10, ze10, zf10, za20, zb20, zc20, zd20, ze20, zf20, za24, zb24, zc24, zd24, ze24, zf24, za39, zb39, zc39, zd39, ze39, zf39, za40, zb40, zc40, zd40, ze40, zf40, za50, zb50, zc50, zd50, ze50, zf50, za51, zb51, zc51, zd51, ze51, zf51, za60, zb60, zc60, zd60, ze60, zf60, za90, zb90, zc90, zd90, ze90, zf90, za99, zb99, zc99, zd99, ze99, zf99, za100, zb100, zc100, zd100, ze100, zf100, za101, zb101, zc101, zd101, ze101, zf101, za120, zb120, zc120, zd120, ze120, zf120, za160, zb160, zc160, zd160, ze160, zf160, za200, zb200, zc200, zd200, ze200, zf200, za400, zb400, zc400, zd400, ze400, zf400, za999, zb999, zc999, zd999, ze999, zf999, za1000, zb1000, zc1000, zd1000, ze1000, zf1000, za1440, zb1440, zc1440, zd1440, ze1440, zf1440, zp1, zp2, zp3, zp8, zp40, zq8, zq10, zq40, nI_leI, nI_ltI, nI_eq, px_inbT, nI_clamp, nI_add, pk_m1, if_pos, if_neg, eX8_match_37_2, eX8_match_37_3, fd_g4 h', e4', eX8_match_96]
    rw [show (fun s => ac (fun j => if hb j = ha i + s then 1 else 0) 0 j (B s)) = B from rfl, ← hM, px_uR_id]
  | g + 1, j, B, o5, M, hM, hj => by
    rw [eX8_match_37]
    simp (disch := omega) only [px_bd_s, px_psh_s, px_psh_n, px_vb_s, px_ib_s, px_wb_s, px_bo_s, px_bo_n, Bool.cond_decide, cond_true, cond_false, ite_not, Bool.and_true, if_true, if_false, not_true_eq_false, not_false_eq_true, i10, eq_self, decide_true, decide_false, Bool.or_true, Bool.true_or, Bool.or_false, Bool.false_or, za0, zb0, zc0, zd0, ze0, zf0, za1, zb1, zc1, zd1, ze1, zf1, za2, zb2, zc2, zd2, ze2, zf2, za3, zb3, zc3, zd3, ze3, zf3, za4, zb4, zc4, zd4, ze4, zf4, za5, zb5, zc5, zd5, ze5, zf5, za6, zb6, zc6, zd6, ze6, zf6, za7, zb7, zc7, zd7, ze7, zf7, za8, zb8, zc8, zd8, ze8, zf8, za9, zb9, zc9, zd9, ze9, zf9, za10, zb10, zc10, zd10, ze10, zf10, za20, zb20, zc20, zd20, ze20, zf20, za24, zb24, zc24, zd24, ze24, zf24, za39, zb39, zc39, zd39, ze39, zf39, za40, zb40, zc40, zd40, ze40, zf40, za50, zb50, zc50, zd50, ze50, zf50, za51, zb51, zc51, zd51, ze51, zf51, za60, zb60, zc60, zd60, ze60, zf60, za90, zb90, zc90, zd90, ze90, zf90, za99, zb99, zc99, zd99, ze99, zf99, za100, zb100, zc100, zd100, ze100, zf100, za101, zb101, zc101, zd101, ze101, zf101, za120, zb120, zc120, zd120, ze120, zf120, za160, zb160, zc160, zd160, ze160, zf160, za200, zb200, zc200, zd200, ze200, zf200, za400, zb400, zc400, zd400, ze400, zf400, za999, zb999, zc999, zd999, ze999, zf999, za1000, zb1000, zc1000, zd1000, ze1000, zf1000, za1440, zb1440, zc1440, zd1440, ze1440, zf1440, zp1, zp2, zp3, zp8, zp40, zq8, zq10, zq40, nI_leI, nI_ltI, nI_eq, px_inbT, nI_clamp, nI_add, pk_m1, if_pos, if_neg, eX8_match_37_2, eX8_match_37_3, eX8_match_37_5, eX8_match_37_6, eX8_match_37_7, eX8_match_37_8, eX8_match_37_9, eX8_match_37_10, eX8_match_37_11, eX8_match_37_12, eX8_match_90, fd_g4 h', e4', fd_g5 h, fd_g5 h', fd_ga h, fd_ga h']
    have e0 : ∀ s, ac (fun j => if hb j = ha i + s then 1 else 0) (g + 1) j (B s) = ac (fun j => if hb j = ha i + s then 1 else 0) g (j + 1) (B s + if hb j = ha i + s then 1 else 0) := fun s => rfl
    simp only [e0]
    rcases sm_or (hb j - ha i) with ⟨h1, h2⟩ | ⟨h1, h2, h3⟩ | ⟨h1, h2, x, hx, h3⟩
    · rw [if_pos h1]
      exact c_mj_l h h' hna hnb e4' hi g (j + 1) _ none M (hM.trans (rwB_out B o _ _ h2)) (by omega)
    · rw [if_neg h1, if_pos h2]
      exact c_mj_l h h' hna hnb e4' hi g (j + 1) _ none M (hM.trans (rwB_out B o _ _ h3)) (by omega)
    · rw [if_neg h1, if_neg h2, h3, sm_50]
      simp (disch := omega) only [px_inbT, nI_clamp, cond_true]
      rw [c_mj_l h h' hna hnb e4' hi g (j + 1) (fun s => B s + if hb j = ha i + s then 1 else 0) none (px_uR M 50 (upd (M 50) x (M 50 x + 1))) (by
        rw [px_uR_s, hM]
        exact rwB_in B o _ _ hx h3) (by omega), px_uR_2]
theorem c_mi_l {p q na nb : Nat} {F ha F' hb o : Nat → Int32} (h : fdAt D p F ha) (h' : fdAt D q F' hb) (hna : na ≤ 8) (hnb : nb ≤ 8) (e4 : F 4 = nI na) (e4' : F' 4 = nI nb) : ∀ (g i : Nat) (B : Int32 → Int32) (M : Nat → Nat → Int32), M 50 = rwB B o → i + g = na → px_run (px_mk (kX8_match (px_ex px_tab d))) 26 ([some (Value.ref (49)), some (Value.ref (111 + p)), some (Value.ref (111 + q)), some (Value.int (nI i)), none, none], [], (hp (M) (J) (R) (c) (e) nL xs (D))) = px_run (px_mk (kX8_match (px_ex px_tab d))) 102 ([some (Value.ref (49)), some (Value.ref (111 + p)), some (Value.ref (111 + q)), some (Value.int (nI na)), none, none], [], (hp (px_uR M 50 (rwB (fun s => sh2 ha hb nb s g i (B s)) o)) (J) (R) (c) (e) nL xs (D)))
  | 0, i, B, M, hM, hi => by
    rw [eX8_match_26]
    simp (disch := omega) only [px_bd_s, px_psh_s, px_psh_n, px_vb_s, px_ib_s, px_wb_s, px_bo_s, px_bo_n, Bool.cond_decide, cond_true, cond_false, ite_not, Bool.and_true, if_true, if_false, not_true_eq_false, not_false_eq_true, i10, eq_self, decide_true, decide_false, Bool.or_true, Bool.true_or, Bool.or_false, Bool.false_or, za0, zb0, zc0, zd0, ze0, zf0, za1, zb1, zc1, zd1, ze1, zf1, za2, zb2, zc2, zd2, ze2, zf2, za3, zb3, zc3, zd3, ze3, zf3, za4, zb4, zc4, zd4, ze4, zf4, za5, zb5, zc5, zd5, ze5, zf5, za6, zb6, zc6, zd6, ze6, zf6, za7, zb7, zc7, zd7, ze7, zf7, za8, zb8, zc8, zd8, ze8, zf8, za9, zb9, zc9, zd9, ze9, zf9, za10, zb10, zc10, zd10, ze10, zf10, za20, zb20, zc20, zd20, ze20, zf20, za24, zb24, zc24, zd24, ze24, zf24, za39, zb39, zc39, zd39, ze39, zf39, za40, zb40, zc40, zd40, ze40, zf40, za50, zb50, zc50, zd50, ze50, zf50, za51, zb51, zc51, zd51, ze51, zf51, za60, zb60, zc60, zd60, ze60, zf60, za90, zb90, zc90, zd90, ze90, zf90, za99, zb99, zc99, zd99, ze99, zf99, za100, zb100, zc100, zd100, ze100, zf100, za101, zb101, zc101, zd101, ze101, zf101, za120, zb120, zc120, zd120, ze120, zf120, za160, zb160, zc160, zd160, ze160, zf160, za200, zb200, zc200, zd200, ze200, zf200, za400, zb400, zc400, zd400, ze400, zf400, za999, zb999, zc999, zd999, ze999, zf999, za1000, zb1000, zc1000, zd1000, ze1000, zf1000, za1440, zb1440, zc1440, zd1440, ze1440, zf1440, zp1, zp2, zp3, zp8, zp40, zq8, zq10, zq40, nI_leI, nI_ltI, nI_eq, px_inbT, nI_clamp, nI_add, pk_m1, if_pos, if_neg, eX8_match_26_2, eX8_match_26_3, fd_g4 h, e4]
    rw [show (fun s => sh2 ha hb nb s 0 i (B s)) = B from rfl, ← hM, px_uR_id, show i = na from by omega]
  | g + 1, i, B, M, hM, hi => by
    rw [eX8_match_26]
    simp (disch := omega) only [px_bd_s, px_psh_s, px_psh_n, px_vb_s, px_ib_s, px_wb_s, px_bo_s, px_bo_n, Bool.cond_decide, cond_true, cond_false, ite_not, Bool.and_true, if_true, if_false, not_true_eq_false, not_false_eq_true, i10, eq_self, decide_true, decide_false, Bool.or_true, Bool.true_or, Bool.or_false, Bool.false_or, za0, zb0, zc0, zd0, ze0, zf0, za1, zb1, zc1, zd1, ze1, zf1, za2, zb2, zc2, zd2, ze2, zf2, za3, zb3, zc3, zd3, ze3, zf3, za4, zb4, zc4, zd4, ze4, zf4, za5, zb5, zc5, zd5, ze5, zf5, za6, zb6, zc6, zd6, ze6, zf6, za7, zb7, zc7, zd7, ze7, zf7, za8, zb8, zc8, zd8, ze8, zf8, za9, zb9, zc9, zd9, ze9, zf9, za10, zb10, zc10, zd10, ze10, zf10, za20, zb20, zc20, zd20, ze20, zf20, za24, zb24, zc24, zd24, ze24, zf24, za39, zb39, zc39, zd39, ze39, zf39, za40, zb40, zc40, zd40, ze40, zf40, za50, zb50, zc50, zd50, ze50, zf50, za51, zb51, zc51, zd51, ze51, zf51, za60, zb60, zc60, zd60, ze60, zf60, za90, zb90, zc90, zd90, ze90, zf90, za99, zb99, zc99, zd99, ze99, zf99, za100, zb100, zc100, zd100, ze100, zf100, za101, zb101, zc101, zd101, ze101, zf101, za120, zb120, zc120, zd120, ze120, zf120, za160, zb160, zc160, zd160, ze160, zf160, za200, zb200, zc200, zd200, ze200, zf200, za400, zb400, zc400, zd400, ze400, zf400, za999, zb999, zc999, zd999, ze999, zf999, za1000, zb1000, zc1000, zd1000, ze1000, zf1000, za1440, zb1440, zc1440, zd1440, ze1440, zf1440, zp1, zp2, zp3, zp8, zp40, zq8, zq10, zq40, nI_leI, nI_ltI, nI_eq, px_inbT, nI_clamp, nI_add, pk_m1, if_pos, if_neg, eX8_match_26_2, eX8_match_26_3, fd_g4 h, e4]
    rw [show (0 : Int32) = nI 0 from rfl, c_mj_l d J R c e nL xs D h h' hna hnb e4' (by omega) nb 0 B none M hM (by omega), c_mi_l h h' hna hnb e4 e4' g (i + 1) (fun s => ac (fun j => if hb j = ha i + s then 1 else 0) nb 0 (B s)) _ (px_uR_s _ _ _) (by omega), px_uR_2]
    rfl
theorem c_takeIf {B : Int32 → Int32} {o : Nat → Int32} {x : Nat} (hx : x ≤ 100) {v : Int32} (hv : v = nI x - 50) (M : Nat → Nat → Int32) (hM : M 50 = rwB B o) (p : Int32 × Int32) : px_ex px_tab (d + 1) 100 [Value.ref (49), Value.int (v)] (hp (stB M p) (J) (R) (c) (e) nL xs (D)) = some (none, (hp (stB M (tkB B v p)) (J) (R) (c) (e) nL xs (D))) := by
  rw [xX8_takeIfGreater, eX8_takeIfGreater_0]
  have e1 : stB M p 50 x = B v := by
    show M 50 x = B v
    rw [hM, hv]
    exact if_pos hx
  have e2 : stB M p 49 1 = p.1 := rfl
  rw [hv, sm_50, ← hv]
  simp (disch := omega) only [px_bd_s, px_psh_s, px_psh_n, px_vb_s, px_ib_s, px_wb_s, px_bo_s, px_bo_n, Bool.cond_decide, cond_true, cond_false, ite_not, Bool.and_true, if_true, if_false, not_true_eq_false, not_false_eq_true, i10, eq_self, decide_true, decide_false, Bool.or_true, Bool.true_or, Bool.or_false, Bool.false_or, px_inbT, nI_clamp, e1, e2, eX8_takeIfGreater_34]
  unfold tkB
  by_cases h : B v ≤ p.1
  · rw [if_pos h, if_pos h]
  · rw [if_neg h, if_neg h]
    congr 2
theorem c_far_l {B : Int32 → Int32} {o : Nat → Int32} (M : Nat → Nat → Int32) (hM : M 50 = rwB B o) : ∀ (g k : Nat) (p : Int32 × Int32), k + g = 51 → px_run (px_mk (kX8_match (px_ex px_tab (d + 1)))) 109 ([some (.ref 49), none, none, some (.int (nI k)), none, none], [], hp (stB M p) J R c e nL xs D) = some (none, (hp (stB M (flB B g k p)) (J) (R) (c) (e) nL xs (D)))
  | 0, k, p, hk => by
    rw [eX8_match_109]
    simp (disch := omega) only [px_bd_s, px_psh_s, px_psh_n, px_vb_s, px_ib_s, px_wb_s, px_bo_s, px_bo_n, Bool.cond_decide, cond_true, cond_false, ite_not, Bool.and_true, if_true, if_false, not_true_eq_false, not_false_eq_true, i10, eq_self, decide_true, decide_false, Bool.or_true, Bool.true_or, Bool.or_false, Bool.false_or, za0, zb0, zc0, zd0, ze0, zf0, za1, zb1, zc1, zd1, ze1, zf1, za2, zb2, zc2, zd2, ze2, zf2, za3, zb3, zc3, zd3, ze3, zf3, za4, zb4, zc4, zd4, ze4, zf4, za5, zb5, zc5, zd5, ze5, zf5, za6, zb6, zc6, zd6, ze6, zf6, za7, zb7, zc7, zd7, ze7, zf7, za8, zb8, zc8, zd8, ze8, zf8, za9, zb9, zc9, zd9, ze9, zf9, za10, zb10, zc10, zd10, ze10, zf10, za20, zb20, zc20, zd20, ze20, zf20, za24, zb24, zc24, zd24, ze24, zf24, za39, zb39, zc39, zd39, ze39, zf39, za40, zb40, zc40, zd40, ze40, zf40, za50, zb50, zc50, zd50, ze50, zf50, za51, zb51, zc51, zd51, ze51, zf51, za60, zb60, zc60, zd60, ze60, zf60, za90, zb90, zc90, zd90, ze90, zf90, za99, zb99, zc99, zd99, ze99, zf99, za100, zb100, zc100, zd100, ze100, zf100, za101, zb101, zc101, zd101, ze101, zf101, za120, zb120, zc120, zd120, ze120, zf120, za160, zb160, zc160, zd160, ze160, zf160, za200, zb200, zc200, zd200, ze200, zf200, za400, zb400, zc400, zd400, ze400, zf400, za999, zb999, zc999, zd999, ze999, zf999, za1000, zb1000, zc1000, zd1000, ze1000, zf1000, za1440, zb1440, zc1440, zd1440, ze1440, zf1440, zp1, zp2, zp3, zp8, zp40, zq8, zq10, zq40, nI_leI, nI_ltI, nI_eq, px_inbT, nI_clamp, nI_add, pk_m1, if_pos, if_neg, eX8_match_132]
    rfl
  | g + 1, k, p, hk => by
    rw [eX8_match_109]
    simp (disch := omega) only [px_bd_s, px_psh_s, px_psh_n, px_vb_s, px_ib_s, px_wb_s, px_bo_s, px_bo_n, Bool.cond_decide, cond_true, cond_false, ite_not, Bool.and_true, if_true, if_false, not_true_eq_false, not_false_eq_true, i10, eq_self, decide_true, decide_false, Bool.or_true, Bool.true_or, Bool.or_false, Bool.false_or, za0, zb0, zc0, zd0, ze0, zf0, za1, zb1, zc1, zd1, ze1, zf1, za2, zb2, zc2, zd2, ze2, zf2, za3, zb3, zc3, zd3, ze3, zf3, za4, zb4, zc4, zd4, ze4, zf4, za5, zb5, zc5, zd5, ze5, zf5, za6, zb6, zc6, zd6, ze6, zf6, za7, zb7, zc7, zd7, ze7, zf7, za8, zb8, zc8, zd8, ze8, zf8, za9, zb9, zc9, zd9, ze9, zf9, za10, zb10, zc10, zd10, ze10, zf10, za20, zb20, zc20, zd20, ze20, zf20, za24, zb24, zc24, zd24, ze24, zf24, za39, zb39, zc39, zd39, ze39, zf39, za40, zb40, zc40, zd40, ze40, zf40, za50, zb50, zc50, zd50, ze50, zf50, za51, zb51, zc51, zd51, ze51, zf51, za60, zb60, zc60, zd60, ze60, zf60, za90, zb90, zc90, zd90, ze90, zf90, za99, zb99, zc99, zd99, ze99, zf99, za100, zb100, zc100, zd100, ze100, zf100, za101, zb101, zc101, zd101, ze101, zf101, za120, zb120, zc120, zd120, ze120, zf120, za160, zb160, zc160, zd160, ze160, zf160, za200, zb200, zc200, zd200, ze200, zf200, za400, zb400, zc400, zd400, ze400, zf400, za999, zb999, zc999, zd999, ze999, zf999, za1000, zb1000, zc1000, zd1000, ze1000, zf1000, za1440, zb1440, zc1440, zd1440, ze1440, zf1440, zp1, zp2, zp3, zp8, zp40, zq8, zq10, zq40, nI_leI, nI_ltI, nI_eq, px_inbT, nI_clamp, nI_add, pk_m1, if_pos, if_neg]
    rw [c_takeIf d J R c e nL xs D (x := 50 - k) (by omega) (sm_n (by omega)) M hM p]
    simp only [px_bd_s, px_psh_s, px_psh_n, px_vb_s, px_ib_s, px_wb_s, px_bo_s, px_bo_n, Bool.cond_decide, cond_true, cond_false, ite_not, Bool.and_true, if_true, if_false, not_true_eq_false, not_false_eq_true, i10, eq_self, decide_true, decide_false, Bool.or_true, Bool.true_or, Bool.or_false, Bool.false_or, eX8_match_109_7]
    rw [c_takeIf d J R c e nL xs D (x := 50 + k) (by omega) (sm_p (by omega)) M hM]
    simp only [px_bd_s, px_psh_s, px_psh_n, px_vb_s, px_ib_s, px_wb_s, px_bo_s, px_bo_n, Bool.cond_decide, cond_true, cond_false, ite_not, Bool.and_true, if_true, if_false, not_true_eq_false, not_false_eq_true, i10, eq_self, decide_true, decide_false, Bool.or_true, Bool.true_or, Bool.or_false, Bool.false_or, eX8_match_109_10, nI_1]
    exact c_far_l M hM g (k + 1) _ (by omega)
/-- the bond of two timbers, and its shift -/
def bnd (ha hb : Nat → Int32) (na nb : Nat) : Int32 × Int32 := flB (fun s => sh2 ha hb nb s na 0 0) 50 1 (sh2 ha hb nb 0 na 0 0, 0)
theorem bnd_51 (ha hb : Nat → Int32) (na nb : Nat) (hna : na ≤ 8) (hnb : nb ≤ 8) (z : Int32) : flB (fun s => sh2 ha hb nb s na 0 0) 51 0 (-1, z) = bnd ha hb na nb := by
  show flB _ 50 1 (tkB _ (nI 0) (tkB _ (-nI 0) (-1, z))) = _
  rw [show -nI 0 = 0 from rfl, nI_0]
  obtain ⟨S, hS, h⟩ := sh2_n ha hb nb 0 na 0 0
  have hb64 : nb * na ≤ 8 * 8 := Nat.mul_le_mul hnb hna
  rw [nI_0, Nat.zero_add] at h
  have e1 : tkB (fun s => sh2 ha hb nb s na 0 0) 0 (-1, z) = (sh2 ha hb nb 0 na 0 0, 0) := by
    unfold tkB
    dsimp only
    rw [if_neg]
    rw [h]
    exact nI_neg (k := 1) (by omega) (by decide) (by decide)
  rw [e1]
  have e2 : tkB (fun s => sh2 ha hb nb s na 0 0) 0 (sh2 ha hb nb 0 na 0 0, 0) = (sh2 ha hb nb 0 na 0 0, 0) := by
    unfold tkB
    dsimp only
    rw [if_pos (Int32.le_refl _)]
  rw [e2]
  rfl
theorem c_match {p q na nb : Nat} {F ha F' hb : Nat → Int32} (h : fdAt D p F ha) (h' : fdAt D q F' hb) (hna : na ≤ 8) (hnb : nb ≤ 8) (e4 : F 4 = nI na) (e4' : F' 4 = nI nb) (M : Nat → Nat → Int32) : px_ex px_tab (d + 2) 99 [Value.ref (49), Value.ref (111 + p), Value.ref (111 + q)] (hp (M) (J) (R) (c) (e) nL xs (D)) = some (none, (hp (stB (px_uR M 50 (rwB (fun s => sh2 ha hb nb s na 0 0) (M 50))) (bnd ha hb na nb)) (J) (R) (c) (e) nL xs (D))) := by
  rw [xX8_match, eX8_match_0, show (0 : Int32) = nI 0 from rfl, c_zero_l (d + 1) J R c e nL xs D _ _ 101 0 none none M rfl, rwB_0]
  rw [c_mi_l (d + 1) J R c e nL xs D (o := M 50) h h' hna hnb e4 e4' na 0 (fun _ => 0) _ (px_uR_s _ _ _) (by omega), px_uR_2, eX8_match_102]
  have hf := c_far_l d J R c e nL xs D (B := fun s => sh2 ha hb nb s na 0 0) (o := M 50) (px_uR M 50 (rwB (fun s => sh2 ha hb nb s na 0 0) (M 50))) (px_uR_s _ _ _) 51 0 (-1, M 49 2) rfl
  rw [bnd_51 ha hb na nb hna hnb, nI_0] at hf
  refine Eq.trans ?_ hf
  congr 3
end S31
section S31b
variable (d : Nat) (M : Nat → Nat → Int32) (J : Nat → Nat → Int64) (R : Nat → Nat → Option Nat) (c e nL : Nat) (xs : Nat → Int32) (D : px_H)
theorem m_sh_j {a b na nb i : Nat} (ha : a < 20) (hb : b < 20) (hna : na ≤ 8) (hnb : nb ≤ 8) (eb : M 81 b = nI nb) (hi : i < na) (s : Int32) : ∀ (g j : Nat) (x : Int32), j + g = nb → px_run (px_mk (kX12_shared (px_ex px_tab d))) 31 ([some (Value.ref (67)), some (Value.int (nI a)), some (Value.int (nI b)), some (Value.int (s)), some (Value.int (x)), some (Value.int (nI (8 * a + i))), some (Value.int (nI (8 * b + j)))], [], (hp (M) (J) (R) (c) (e) nL xs (D))) = px_run (px_mk (kX12_shared (px_ex px_tab d))) 9 ([some (Value.ref (67)), some (Value.int (nI a)), some (Value.int (nI b)), some (Value.int (s)), some (Value.int (ac (fun j => if M 82 (8 * b + j) = M 82 (8 * a + i) + s then 1 else 0) g j x)), some (Value.int (nI (8 * a + (i + 1)))), none], [], (hp (M) (J) (R) (c) (e) nL xs (D)))
  | 0, j, x, hj => by
    rw [eX12_shared_31]
    simp (disch := omega) only [px_bd_s, px_psh_s, px_psh_n, px_vb_s, px_ib_s, px_wb_s, px_bo_s, px_bo_n, Bool.cond_decide, cond_true, cond_false, ite_not, Bool.and_true, if_true, if_false, not_true_eq_false, not_false_eq_true, i10, eq_self, decide_true, decide_false, Bool.or_true, Bool.true_or, Bool.or_false, Bool.false_or, za0, zb0, zc0, zd0, ze0, zf0, za1, zb1, zc1, zd1, ze1, zf1, za2, zb2, zc2, zd2, ze2, zf2, za3, zb3, zc3, zd3, ze3, zf3, za4, zb4, zc4, zd4, ze4, zf4, za5, zb5, zc5, zd5, ze5, zf5, za6, zb6, zc6, zd6, ze6, zf6, za7, zb7, zc7, zd7, ze7, zf7, za8, zb8, zc8, zd8, ze8, zf8, za9, zb9, zc9, zd9, ze9, zf9, za10, zb10, zc10, zd10, ze10, zf10, za20, zb20, zc20, zd20, ze20, zf20, za24, zb24, zc24, zd24, ze24, zf24, za39, zb39, zc39, zd39, ze39, zf39, za40, zb40, zc40, zd40, ze40, zf40, za50, zb50, zc50, zd50, ze50, zf50, za51, zb51, zc51, zd51, ze51, zf51, za60, zb60, zc60, zd60, ze60, zf60, za90, zb90, zc90, zd90, ze90, zf90, za99, zb99, zc99, zd99, ze99, zf99, za100, zb100, zc100, zd100, ze100, zf100, za101, zb101, zc101, zd101, ze101, zf101, za120, zb120, zc120, zd120, ze120, zf120, za160, zb160, zc160, zd160, ze160, zf160, za200, zb200, zc200, zd200, ze200, zf200, za400, zb400, zc400, zd400, ze400, zf400, za999, zb999, zc999, zd999, ze999, zf999, za1000, zb1000, zc1000, zd1000, ze1000, zf1000, za1440, zb1440, zc1440, zd1440, ze1440, zf1440, zp1, zp2, zp3, zp8, zp40, zq8, zq10, zq40, nI_leI, nI_ltI, nI_eq, px_inbT, nI_clamp, nI_add, pk_m1, if_pos, if_neg, eb, eX12_shared_82]
    rfl
  | g + 1, j, x, hj => by
    rw [eX12_shared_31, ac_s]
    simp (disch := omega) only [px_bd_s, px_psh_s, px_psh_n, px_vb_s, px_ib_s, px_wb_s, px_bo_s, px_bo_n, Bool.cond_decide, cond_true, cond_false, ite_not, Bool.and_true, if_true, if_false, not_true_eq_false, not_false_eq_true, i10, eq_self, decide_true, decide_false, Bool.or_true, Bool.true_or, Bool.or_false, Bool.false_or, za0, zb0, zc0, zd0, ze0, zf0, za1, zb1, zc1, zd1, ze1, zf1, za2, zb2, zc2, zd2, ze2, zf2, za3, zb3, zc3, zd3, ze3, zf3, za4, zb4, zc4, zd4, ze4, zf4, za5, zb5, zc5, zd5, ze5, zf5, za6, zb6, zc6, zd6, ze6, zf6, za7, zb7, zc7, zd7, ze7, zf7, za8, zb8, zc8, zd8, ze8, zf8, za9, zb9, zc9, zd9, ze9, zf9, za10, zb10, zc10, zd10, ze10, zf10, za20, zb20, zc20, zd20, ze20, zf20, za24, zb24, zc24, zd24, ze24, zf24, za39, zb39, zc39, zd39, ze39, zf39, za40, zb40, zc40, zd40, ze40, zf40, za50, zb50, zc50, zd50, ze50, zf50, za51, zb51, zc51, zd51, ze51, zf51, za60, zb60, zc60, zd60, ze60, zf60, za90, zb90, zc90, zd90, ze90, zf90, za99, zb99, zc99, zd99, ze99, zf99, za100, zb100, zc100, zd100, ze100, zf100, za101, zb101, zc101, zd101, ze101, zf101, za120, zb120, zc120, zd120, ze120, zf120, za160, zb160, zc160, zd160, ze160, zf160, za200, zb200, zc200, zd200, ze200, zf200, za400, zb400, zc400, zd400, ze400, zf400, za999, zb999, zc999, zd999, ze999, zf999, za1000, zb1000, zc1000, zd1000, ze1000, zf1000, za1440, zb1440, zc1440, zd1440, ze1440, zf1440, zp1, zp2, zp3, zp8, zp40, zq8, zq10, zq40, nI_leI, nI_ltI, nI_eq, px_inbT, nI_clamp, nI_add, pk_m1, if_pos, if_neg, eb]
    by_cases h : M 82 (8 * b + j) = M 82 (8 * a + i) + s
    · simp (disch := omega) only [if_pos h, px_bd_s, px_psh_s, px_psh_n, px_vb_s, px_ib_s, px_wb_s, px_bo_s, px_bo_n, Bool.cond_decide, cond_true, cond_false, ite_not, Bool.and_true, if_true, if_false, not_true_eq_false, not_false_eq_true, i10, eq_self, decide_true, decide_false, Bool.or_true, Bool.true_or, Bool.or_false, Bool.false_or, eX12_shared_72, eX12_shared_73, zp1]
      exact m_sh_j ha hb hna hnb eb hi s g (j + 1) _ (by omega)
    · simp (disch := omega) only [if_neg h, px_bd_s, px_psh_s, px_psh_n, px_vb_s, px_ib_s, px_wb_s, px_bo_s, px_bo_n, Bool.cond_decide, cond_true, cond_false, ite_not, Bool.and_true, if_true, if_false, not_true_eq_false, not_false_eq_true, i10, eq_self, decide_true, decide_false, Bool.or_true, Bool.true_or, Bool.or_false, Bool.false_or, eX12_shared_72, eX12_shared_73, zp1]
      exact m_sh_j ha hb hna hnb eb hi s g (j + 1) _ (by omega)
theorem m_sh_i {a b na nb : Nat} (ha : a < 20) (hb : b < 20) (hna : na ≤ 8) (hnb : nb ≤ 8) (ea : M 81 a = nI na) (eb : M 81 b = nI nb) (s : Int32) : ∀ (g i : Nat) (x : Int32), i + g = na → px_run (px_mk (kX12_shared (px_ex px_tab d))) 9 ([some (Value.ref (67)), some (Value.int (nI a)), some (Value.int (nI b)), some (Value.int (s)), some (Value.int (x)), some (Value.int (nI (8 * a + i))), none], [], (hp (M) (J) (R) (c) (e) nL xs (D))) = some (some (Value.int (sh2 (fun i => M 82 (8 * a + i)) (fun j => M 82 (8 * b + j)) nb s g i x)), (hp (M) (J) (R) (c) (e) nL xs (D)))
  | 0, i, x, hi => by
    rw [eX12_shared_9]
    simp (disch := omega) only [px_bd_s, px_psh_s, px_psh_n, px_vb_s, px_ib_s, px_wb_s, px_bo_s, px_bo_n, Bool.cond_decide, cond_true, cond_false, ite_not, Bool.and_true, if_true, if_false, not_true_eq_false, not_false_eq_true, i10, eq_self, decide_true, decide_false, Bool.or_true, Bool.true_or, Bool.or_false, Bool.false_or, za0, zb0, zc0, zd0, ze0, zf0, za1, zb1, zc1, zd1, ze1, zf1, za2, zb2, zc2, zd2, ze2, zf2, za3, zb3, zc3, zd3, ze3, zf3, za4, zb4, zc4, zd4, ze4, zf4, za5, zb5, zc5, zd5, ze5, zf5, za6, zb6, zc6, zd6, ze6, zf6, za7, zb7, zc7, zd7, ze7, zf7, za8, zb8, zc8, zd8, ze8, zf8, za9, zb9, zc9, zd9, ze9, zf9, za10, zb10, zc10, zd10, ze10, zf10, za20, zb20, zc20, zd20, ze20, zf20, za24, zb24, zc24, zd24, ze24, zf24, za39, zb39, zc39, zd39, ze39, zf39, za40, zb40, zc40, zd40, ze40, zf40, za50, zb50, zc50, zd50, ze50, zf50, za51, zb51, zc51, zd51, ze51, zf51, za60, zb60, zc60, zd60, ze60, zf60, za90, zb90, zc90, zd90, ze90, zf90, za99, zb99, zc99, zd99, ze99, zf99, za100, zb100, zc100, zd100, ze100, zf100, za101, zb101, zc101, zd101, ze101, zf101, za120, zb120, zc120, zd120, ze120, zf120, za160, zb160, zc160, zd160, ze160, zf160, za200, zb200, zc200, zd200, ze200, zf200, za400, zb400, zc400, zd400, ze400, zf400, za999, zb999, zc999, zd999, ze999, zf999, za1000, zb1000, zc1000, zd1000, ze1000, zf1000, za1440, zb1440, zc1440, zd1440, ze1440, zf1440, zp1, zp2, zp3, zp8, zp40, zq8, zq10, zq40, nI_leI, nI_ltI, nI_eq, px_inbT, nI_clamp, nI_add, pk_m1, if_pos, if_neg, ea, eX12_shared_88]
    rfl
  | g + 1, i, x, hi => by
    rw [eX12_shared_9, sh2_s]
    simp (disch := omega) only [px_bd_s, px_psh_s, px_psh_n, px_vb_s, px_ib_s, px_wb_s, px_bo_s, px_bo_n, Bool.cond_decide, cond_true, cond_false, ite_not, Bool.and_true, if_true, if_false, not_true_eq_false, not_false_eq_true, i10, eq_self, decide_true, decide_false, Bool.or_true, Bool.true_or, Bool.or_false, Bool.false_or, za0, zb0, zc0, zd0, ze0, zf0, za1, zb1, zc1, zd1, ze1, zf1, za2, zb2, zc2, zd2, ze2, zf2, za3, zb3, zc3, zd3, ze3, zf3, za4, zb4, zc4, zd4, ze4, zf4, za5, zb5, zc5, zd5, ze5, zf5, za6, zb6, zc6, zd6, ze6, zf6, za7, zb7, zc7, zd7, ze7, zf7, za8, zb8, zc8, zd8, ze8, zf8, za9, zb9, zc9, zd9, ze9, zf9, za10, zb10, zc10, zd10, ze10, zf10, za20, zb20, zc20, zd20, ze20, zf20, za24, zb24, zc24, zd24, ze24, zf24, za39, zb39, zc39, zd39, ze39, zf39, za40, zb40, zc40, zd40, ze40, zf40, za50, zb50, zc50, zd50, ze50, zf50, za51, zb51, zc51, zd51, ze51, zf51, za60, zb60, zc60, zd60, ze60, zf60, za90, zb90, zc90, zd90, ze90, zf90, za99, zb99, zc99, zd99, ze99, zf99, za100, zb100, zc100, zd100, ze100, zf100, za101, zb101, zc101, zd101, ze101, zf101, za120, zb120, zc120, zd120, ze120, zf120, za160, zb160, zc160, zd160, ze160, zf160, za200, zb200, zc200, zd200, ze200, zf200, za400, zb400, zc400, zd400, ze400, zf400, za999, zb999, zc999, zd999, ze999, zf999, za1000, zb1000, zc1000, zd1000, ze1000, zf1000, za1440, zb1440, zc1440, zd1440, ze1440, zf1440, zp1, zp2, zp3, zp8, zp40, zq8, zq10, zq40, nI_leI, nI_ltI, nI_eq, px_inbT, nI_clamp, nI_add, pk_m1, if_pos, if_neg, ea]
    rw [show 8 * b = 8 * b + 0 from rfl, m_sh_j _ _ _ _ _ _ _ _ _ ha hb hna hnb eb (by omega) s nb 0 x (by omega)]
    exact m_sh_i ha hb hna hnb ea eb s g (i + 1) _ (by omega)
theorem m_shared {a b na nb : Nat} (ha : a < 20) (hb : b < 20) (hna : na ≤ 8) (hnb : nb ≤ 8) (ea : M 81 a = nI na) (eb : M 81 b = nI nb) (s : Int32) : px_ex px_tab (d + 1) 232 [Value.ref (67), Value.int (nI a), Value.int (nI b), Value.int (s)] (hp (M) (J) (R) (c) (e) nL xs (D)) = some (some (Value.int (sh2 (fun i => M 82 (8 * a + i)) (fun j => M 82 (8 * b + j)) nb s na 0 0)), (hp (M) (J) (R) (c) (e) nL xs (D))) := by
  rw [xX12_shared, eX12_shared_0, zq8]
  exact m_sh_i _ _ _ _ _ _ _ _ _ ha hb hna hnb ea eb s na 0 0 (by omega)
theorem m_bond_l {a b na nb : Nat} (ha : a < 20) (hb : b < 20) (hna : na ≤ 8) (hnb : nb ≤ 8) (ea : M 81 a = nI na) (eb : M 81 b = nI nb) (w : Int32) : ∀ (g k : Nat) (p : Int32 × Int32), k + g = 51 → px_run (px_mk (kX12_bonded (px_ex px_tab (d + 1)))) 15 ([some (.ref 67), some (.int (nI a)), some (.int (nI b)), some (.int w), some (.int p.2), some (.int p.1), some (.int (nI k)), none, none], [], (hp M J R c e nL xs D)) = some (some (Value.int (if w = 0 then (flB (fun s => sh2 (fun i => M 82 (8 * a + i)) (fun j => M 82 (8 * b + j)) nb s na 0 0) g k p).1 else (flB (fun s => sh2 (fun i => M 82 (8 * a + i)) (fun j => M 82 (8 * b + j)) nb s na 0 0) g k p).2)), (hp (M) (J) (R) (c) (e) nL xs (D)))
  | 0, k, p, hk => by
    rw [eX12_bonded_15]
    simp (disch := omega) only [px_bd_s, px_psh_s, px_psh_n, px_vb_s, px_ib_s, px_wb_s, px_bo_s, px_bo_n, Bool.cond_decide, cond_true, cond_false, ite_not, Bool.and_true, if_true, if_false, not_true_eq_false, not_false_eq_true, i10, eq_self, decide_true, decide_false, Bool.or_true, Bool.true_or, Bool.or_false, Bool.false_or, za0, zb0, zc0, zd0, ze0, zf0, za1, zb1, zc1, zd1, ze1, zf1, za2, zb2, zc2, zd2, ze2, zf2, za3, zb3, zc3, zd3, ze3, zf3, za4, zb4, zc4, zd4, ze4, zf4, za5, zb5, zc5, zd5, ze5, zf5, za6, zb6, zc6, zd6, ze6, zf6, za7, zb7, zc7, zd7, ze7, zf7, za8, zb8, zc8, zd8, ze8, zf8, za9, zb9, zc9, zd9, ze9, zf9, za10, zb10, zc10, zd10, ze10, zf10, za20, zb20, zc20, zd20, ze20, zf20, za24, zb24, zc24, zd24, ze24, zf24, za39, zb39, zc39, zd39, ze39, zf39, za40, zb40, zc40, zd40, ze40, zf40, za50, zb50, zc50, zd50, ze50, zf50, za51, zb51, zc51, zd51, ze51, zf51, za60, zb60, zc60, zd60, ze60, zf60, za90, zb90, zc90, zd90, ze90, zf90, za99, zb99, zc99, zd99, ze99, zf99, za100, zb100, zc100, zd100, ze100, zf100, za101, zb101, zc101, zd101, ze101, zf101, za120, zb120, zc120, zd120, ze120, zf120, za160, zb160, zc160, zd160, ze160, zf160, za200, zb200, zc200, zd200, ze200, zf200, za400, zb400, zc400, zd400, ze400, zf400, za999, zb999, zc999, zd999, ze999, zf999, za1000, zb1000, zc1000, zd1000, ze1000, zf1000, za1440, zb1440, zc1440, zd1440, ze1440, zf1440, zp1, zp2, zp3, zp8, zp40, zq8, zq10, zq40, nI_leI, nI_ltI, nI_eq, px_inbT, nI_clamp, nI_add, pk_m1, if_pos, if_neg, eX12_bonded_91, eX12_bonded_100, eX12_bonded_102]
    by_cases h : w = 0
    · rw [if_pos h, if_pos h]
      rfl
    · rw [if_neg h, if_neg h]
      rfl
  | g + 1, k, p, hk => by
    refine Eq.trans ?_ (m_bond_l ha hb hna hnb ea eb w g (k + 1) (tkB (fun s => sh2 (fun i => M 82 (8 * a + i)) (fun j => M 82 (8 * b + j)) nb s na 0 0) (nI k) (tkB (fun s => sh2 (fun i => M 82 (8 * a + i)) (fun j => M 82 (8 * b + j)) nb s na 0 0) (-nI k) p)) (by omega))
    have step : ∀ (sd : Int32) (p : Int32 × Int32), sd ≤ 1 → px_run (px_mk (kX12_bonded (px_ex px_tab (d + 1)))) 25 ([some (.ref 67), some (.int (nI a)), some (.int (nI b)), some (.int w), some (.int p.2), some (.int p.1), some (.int (nI k)), some (.int sd), none], [], (hp M J R c e nL xs D)) = px_run (px_mk (kX12_bonded (px_ex px_tab (d + 1)))) 25 ([some (.ref 67), some (.int (nI a)), some (.int (nI b)), some (.int w), some (.int (tkB (fun s => sh2 (fun i => M 82 (8 * a + i)) (fun j => M 82 (8 * b + j)) nb s na 0 0) (sd * nI k) p).2), some (.int (tkB (fun s => sh2 (fun i => M 82 (8 * a + i)) (fun j => M 82 (8 * b + j)) nb s na 0 0) (sd * nI k) p).1), some (.int (nI k)), some (.int (sd + 2)), none], [], (hp M J R c e nL xs D)) := by
      intro sd p hsd
      rw [eX12_bonded_25]
      simp only [px_bd_s, px_psh_s, px_psh_n, px_vb_s, px_ib_s, px_wb_s, px_bo_s, px_bo_n, Bool.cond_decide, cond_true, cond_false, ite_not, Bool.and_true, if_true, if_false, not_true_eq_false, not_false_eq_true, i10, eq_self, decide_true, decide_false, Bool.or_true, Bool.true_or, Bool.or_false, Bool.false_or, if_neg (Int32.not_lt.mpr hsd), m_shared _ _ _ _ _ _ _ _ _ ha hb hna hnb ea eb, eX12_bonded_25_10, eX12_bonded_59, eX12_bonded_61, eX12_bonded_75, eX12_bonded_77]
      unfold tkB
      dsimp only
      split <;> rfl
    rw [eX12_bonded_15]
    simp (disch := omega) only [px_bd_s, px_psh_s, px_psh_n, px_vb_s, px_ib_s, px_wb_s, px_bo_s, px_bo_n, Bool.cond_decide, cond_true, cond_false, ite_not, Bool.and_true, if_true, if_false, not_true_eq_false, not_false_eq_true, i10, eq_self, decide_true, decide_false, Bool.or_true, Bool.true_or, Bool.or_false, Bool.false_or, za0, zb0, zc0, zd0, ze0, zf0, za1, zb1, zc1, zd1, ze1, zf1, za2, zb2, zc2, zd2, ze2, zf2, za3, zb3, zc3, zd3, ze3, zf3, za4, zb4, zc4, zd4, ze4, zf4, za5, zb5, zc5, zd5, ze5, zf5, za6, zb6, zc6, zd6, ze6, zf6, za7, zb7, zc7, zd7, ze7, zf7, za8, zb8, zc8, zd8, ze8, zf8, za9, zb9, zc9, zd9, ze9, zf9, za10, zb10, zc10, zd10, ze10, zf10, za20, zb20, zc20, zd20, ze20, zf20, za24, zb24, zc24, zd24, ze24, zf24, za39, zb39, zc39, zd39, ze39, zf39, za40, zb40, zc40, zd40, ze40, zf40, za50, zb50, zc50, zd50, ze50, zf50, za51, zb51, zc51, zd51, ze51, zf51, za60, zb60, zc60, zd60, ze60, zf60, za90, zb90, zc90, zd90, ze90, zf90, za99, zb99, zc99, zd99, ze99, zf99, za100, zb100, zc100, zd100, ze100, zf100, za101, zb101, zc101, zd101, ze101, zf101, za120, zb120, zc120, zd120, ze120, zf120, za160, zb160, zc160, zd160, ze160, zf160, za200, zb200, zc200, zd200, ze200, zf200, za400, zb400, zc400, zd400, ze400, zf400, za999, zb999, zc999, zd999, ze999, zf999, za1000, zb1000, zc1000, zd1000, ze1000, zf1000, za1440, zb1440, zc1440, zd1440, ze1440, zf1440, zp1, zp2, zp3, zp8, zp40, zq8, zq10, zq40, nI_leI, nI_ltI, nI_eq, px_inbT, nI_clamp, nI_add, pk_m1, if_pos, if_neg]
    rw [step (-1) p (by decide), step (-1 + 2) _ (by decide), eX12_bonded_25]
    simp only [px_bd_s, px_psh_s, px_psh_n, px_vb_s, px_ib_s, px_wb_s, px_bo_s, px_bo_n, Bool.cond_decide, cond_true, cond_false, ite_not, Bool.and_true, if_true, if_false, not_true_eq_false, not_false_eq_true, i10, eq_self, decide_true, decide_false, Bool.or_true, Bool.true_or, Bool.or_false, Bool.false_or, show (1 : Int32) < -1 + 2 + 2 from by decide, eX12_bonded_85, nI_1]
    rw [show (-1 : Int32) * nI k = -nI k from by rw [Int32.neg_mul, Int32.one_mul], show ((-1 : Int32) + 2) * nI k = nI k from by rw [show ((-1 : Int32) + 2) = 1 from by decide, Int32.one_mul]]
theorem m_bonded {a b na nb : Nat} (ha : a < 20) (hb : b < 20) (hna : na ≤ 8) (hnb : nb ≤ 8) (ea : M 81 a = nI na) (eb : M 81 b = nI nb) (w : Int32) : px_ex px_tab (d + 2) 233 [Value.ref (67), Value.int (nI a), Value.int (nI b), Value.int (w)] (hp (M) (J) (R) (c) (e) nL xs (D)) = some (some (Value.int (if w = 0 then (bnd (fun i => M 82 (8 * a + i)) (fun j => M 82 (8 * b + j)) na nb).1 else (bnd (fun i => M 82 (8 * a + i)) (fun j => M 82 (8 * b + j)) na nb).2)), (hp (M) (J) (R) (c) (e) nL xs (D))) := by
  rw [xX12_bonded]
  simp only [px_bd_s, px_psh_s, px_psh_n, px_vb_s, px_ib_s, px_wb_s, px_bo_s, px_bo_n, Bool.cond_decide, cond_true, cond_false, ite_not, Bool.and_true, if_true, if_false, not_true_eq_false, not_false_eq_true, i10, eq_self, decide_true, decide_false, Bool.or_true, Bool.true_or, Bool.or_false, Bool.false_or, eX12_bonded_0, eX12_bonded_0_7, m_shared _ _ _ _ _ _ _ _ _ ha hb hna hnb ea eb]
  exact m_bond_l _ _ _ _ _ _ _ _ _ ha hb hna hnb ea eb w 50 1 (sh2 (fun i => M 82 (8 * a + i)) (fun j => M 82 (8 * b + j)) nb 0 na 0 0, 0) rfl
end S31b
