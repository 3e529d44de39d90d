/-! PART 27: HOLE, TAKE -/
section S27
variable (d : Nat) (M : Nat → Nat → Int32) (J : Nat → Nat → Int64) (R : Nat → Nat → Option Nat) (c e nL : Nat) (xs : Nat → Int32) (D : px_H)
theorem c_hole_no {p : Nat} {F H : Nat → Int32} (h : fdAt D p F H) {hc : Nat} (h4 : F 4 = nI hc) (hhc : hc ≤ 8) (v : Int32) : ∀ (g k : Nat), k + g = hc → (∀ q, k ≤ q → q < hc → ¬ H q = v) → px_run (px_mk (kX2_addHole (px_ex px_tab d))) 2 ([some (Value.ref (111 + p)), some (Value.int (v)), some (Value.int (nI k))], [], (hp (M) (J) (R) (c) (e) nL xs (D))) = px_run (px_mk (kX2_addHole (px_ex px_tab d))) 29 ([some (Value.ref (111 + p)), some (Value.int (v)), some (Value.int (nI hc))], [], (hp (M) (J) (R) (c) (e) nL xs (D)))
  | 0, k, hk, _ => by
    rw [eX2_addHole_2]
    simp (disch := omega) only [px_bd_s, px_psh_s, px_psh_n, px_vb_s, px_ib_s, px_wb_s, px_bo_s, px_bo_n, Bool.cond_decide, cond_true, cond_false, ite_not, Bool.and_true, if_true, if_false, not_true_eq_false, not_false_eq_true, i10, eq_self, decide_true, decide_false, Bool.or_true, Bool.true_or, Bool.or_false, Bool.false_or, za0, zb0, zc0, zd0, ze0, zf0, za1, zb1, zc1, zd1, ze1, zf1, za2, zb2, zc2, zd2, ze2, zf2, za3, zb3, zc3, zd3, ze3, zf3, za4, zb4, zc4, zd4, ze4, zf4, za5, zb5, zc5, zd5, ze5, zf5, za6, zb6, zc6, zd6, ze6, zf6, za7, zb7, zc7, zd7, ze7, zf7, za8, zb8, zc8, zd8, ze8, zf8, za9, zb9, zc9, zd9, ze9, zf9, za10, zb10, zc10, zd10, ze10, zf10, za20, zb20, zc20, zd20, ze20, zf20, za24, zb24, zc24, zd24, ze24, zf24, za39, zb39, zc39, zd39, ze39, zf39, za40, zb40, zc40, zd40, ze40, zf40, za50, zb50, zc50, zd50, ze50, zf50, za51, zb51, zc51, zd51, ze51, zf51, za60, zb60, zc60, zd60, ze60, zf60, za90, zb90, zc90, zd90, ze90, zf90, za99, zb99, zc99, zd99, ze99, zf99, za100, zb100, zc100, zd100, ze100, zf100, za101, zb101, zc101, zd101, ze101, zf101, za120, zb120, zc120, zd120, ze120, zf120, za160, zb160, zc160, zd160, ze160, zf160, za200, zb200, zc200, zd200, ze200, zf200, za400, zb400, zc400, zd400, ze400, zf400, za999, zb999, zc999, zd999, ze999, zf999, za1000, zb1000, zc1000, zd1000, ze1000, zf1000, za1440, zb1440, zc1440, zd1440, ze1440, zf1440, zp1, zp2, zp3, zp8, zp40, zq8, zq10, zq40, nI_leI, nI_ltI, nI_eq, px_inbT, nI_clamp, nI_add, pk_m1, if_pos, if_neg, eX2_addHole_2_2, eX2_addHole_2_3, fd_g4 h, h4]
    rw [show k = hc from by omega]
  | g + 1, k, hk, hq => by
    rw [eX2_addHole_2]
    simp (disch := omega) only [px_bd_s, px_psh_s, px_psh_n, px_vb_s, px_ib_s, px_wb_s, px_bo_s, px_bo_n, Bool.cond_decide, cond_true, cond_false, ite_not, Bool.and_true, if_true, if_false, not_true_eq_false, not_false_eq_true, i10, eq_self, decide_true, decide_false, Bool.or_true, Bool.true_or, Bool.or_false, Bool.false_or, za0, zb0, zc0, zd0, ze0, zf0, za1, zb1, zc1, zd1, ze1, zf1, za2, zb2, zc2, zd2, ze2, zf2, za3, zb3, zc3, zd3, ze3, zf3, za4, zb4, zc4, zd4, ze4, zf4, za5, zb5, zc5, zd5, ze5, zf5, za6, zb6, zc6, zd6, ze6, zf6, za7, zb7, zc7, zd7, ze7, zf7, za8, zb8, zc8, zd8, ze8, zf8, za9, zb9, zc9, zd9, ze9, zf9, za10, zb10, zc10, zd10, ze10, zf10, za20, zb20, zc20, zd20, ze20, zf20, za24, zb24, zc24, zd24, ze24, zf24, za39, zb39, zc39, zd39, ze39, zf39, za40, zb40, zc40, zd40, ze40, zf40, za50, zb50, zc50, zd50, ze50, zf50, za51, zb51, zc51, zd51, ze51, zf51, za60, zb60, zc60, zd60, ze60, zf60, za90, zb90, zc90, zd90, ze90, zf90, za99, zb99, zc99, zd99, ze99, zf99, za100, zb100, zc100, zd100, ze100, zf100, za101, zb101, zc101, zd101, ze101, zf101, za120, zb120, zc120, zd120, ze120, zf120, za160, zb160, zc160, zd160, ze160, zf160, za200, zb200, zc200, zd200, ze200, zf200, za400, zb400, zc400, zd400, ze400, zf400, za999, zb999, zc999, zd999, ze999, zf999, za1000, zb1000, zc1000, zd1000, ze1000, zf1000, za1440, zb1440, zc1440, zd1440, ze1440, zf1440, zp1, zp2, zp3, zp8, zp40, zq8, zq10, zq40, nI_leI, nI_ltI, nI_eq, px_inbT, nI_clamp, nI_add, pk_m1, if_pos, if_neg, eX2_addHole_2_2, eX2_addHole_2_3, eX2_addHole_2_5, eX2_addHole_2_6, eX2_addHole_2_7, eX2_addHole_2_8, eX2_addHole_23, fd_g4 h, h4, fd_g5 h, fd_ga h, hq k (Nat.le_refl _) (by omega), if_false]
    exact c_hole_no h h4 hhc v g (k + 1) (by omega) (fun q h1 h2 => hq q (by omega) h2)
theorem c_hole_hit {p : Nat} {F H : Nat → Int32} (h : fdAt D p F H) {hc : Nat} (h4 : F 4 = nI hc) (hhc : hc ≤ 8) (v : Int32) {q : Nat} (hq : q < hc) (he : H q = v) : ∀ (g k : Nat), k + g = q → (∀ r, k ≤ r → r < q → ¬ H r = v) → px_run (px_mk (kX2_addHole (px_ex px_tab d))) 2 ([some (Value.ref (111 + p)), some (Value.int (v)), some (Value.int (nI k))], [], (hp (M) (J) (R) (c) (e) nL xs (D))) = some (some (Value.int (-3)), (hp (M) (J) (R) (c) (e) nL xs (D)))
  | 0, k, hk, _ => by
    rw [eX2_addHole_2, show k = q from by omega]
    simp (disch := omega) only [px_bd_s, px_psh_s, px_psh_n, px_vb_s, px_ib_s, px_wb_s, px_bo_s, px_bo_n, Bool.cond_decide, cond_true, cond_false, ite_not, Bool.and_true, if_true, if_false, not_true_eq_false, not_false_eq_true, i10, eq_self, decide_true, decide_false, Bool.or_true, Bool.true_or, Bool.or_false, Bool.false_or, za0, zb0, zc0, zd0, ze0, zf0, za1, zb1, zc1, zd1, ze1, zf1, za2, zb2, zc2, zd2, ze2, zf2, za3, zb3, zc3, zd3, ze3, zf3, za4, zb4, zc4, zd4, ze4, zf4, za5, zb5, zc5, zd5, ze5, zf5, za6, zb6, zc6, zd6, ze6, zf6, za7, zb7, zc7, zd7, ze7, zf7, za8, zb8, zc8, zd8, ze8, zf8, za9, zb9, zc9, zd9, ze9, zf9, za10, zb10, zc10, zd10, ze10, zf10, za20, zb20, zc20, zd20, ze20, zf20, za24, zb24, zc24, zd24, ze24, zf24, za39, zb39, zc39, zd39, ze39, zf39, za40, zb40, zc40, zd40, ze40, zf40, za50, zb50, zc50, zd50, ze50, zf50, za51, zb51, zc51, zd51, ze51, zf51, za60, zb60, zc60, zd60, ze60, zf60, za90, zb90, zc90, zd90, ze90, zf90, za99, zb99, zc99, zd99, ze99, zf99, za100, zb100, zc100, zd100, ze100, zf100, za101, zb101, zc101, zd101, ze101, zf101, za120, zb120, zc120, zd120, ze120, zf120, za160, zb160, zc160, zd160, ze160, zf160, za200, zb200, zc200, zd200, ze200, zf200, za400, zb400, zc400, zd400, ze400, zf400, za999, zb999, zc999, zd999, ze999, zf999, za1000, zb1000, zc1000, zd1000, ze1000, zf1000, za1440, zb1440, zc1440, zd1440, ze1440, zf1440, zp1, zp2, zp3, zp8, zp40, zq8, zq10, zq40, nI_leI, nI_ltI, nI_eq, px_inbT, nI_clamp, nI_add, pk_m1, if_pos, if_neg, eX2_addHole_2_2, eX2_addHole_2_3, eX2_addHole_2_5, eX2_addHole_2_6, eX2_addHole_2_7, eX2_addHole_2_8, fd_g4 h, h4, fd_g5 h, fd_ga h, he, if_true]
  | g + 1, k, hk, hr => by
    rw [eX2_addHole_2]
    simp (disch := omega) only [px_bd_s, px_psh_s, px_psh_n, px_vb_s, px_ib_s, px_wb_s, px_bo_s, px_bo_n, Bool.cond_decide, cond_true, cond_false, ite_not, Bool.and_true, if_true, if_false, not_true_eq_false, not_false_eq_true, i10, eq_self, decide_true, decide_false, Bool.or_true, Bool.true_or, Bool.or_false, Bool.false_or, za0, zb0, zc0, zd0, ze0, zf0, za1, zb1, zc1, zd1, ze1, zf1, za2, zb2, zc2, zd2, ze2, zf2, za3, zb3, zc3, zd3, ze3, zf3, za4, zb4, zc4, zd4, ze4, zf4, za5, zb5, zc5, zd5, ze5, zf5, za6, zb6, zc6, zd6, ze6, zf6, za7, zb7, zc7, zd7, ze7, zf7, za8, zb8, zc8, zd8, ze8, zf8, za9, zb9, zc9, zd9, ze9, zf9, za10, zb10, zc10, zd10, ze10, zf10, za20, zb20, zc20, zd20, ze20, zf20, za24, zb24, zc24, zd24, ze24, zf24, za39, zb39, zc39, zd39, ze39, zf39, za40, zb40, zc40, zd40, ze40, zf40, za50, zb50, zc50, zd50, ze50, zf50, za51, zb51, zc51, zd51, ze51, zf51, za60, zb60, zc60, zd60, ze60, zf60, za90, zb90, zc90, zd90, ze90, zf90, za99, zb99, zc99, zd99, ze99, zf99, za100, zb100, zc100, zd100, ze100, zf100, za101, zb101, zc101, zd101, ze101, zf101, za120, zb120, zc120, zd120, ze120, zf120, za160, zb160, zc160, zd160, ze160, zf160, za200, zb200, zc200, zd200, ze200, zf200, za400, zb400, zc400, zd400, ze400, zf400, za999, zb999, zc999, zd999, ze999, zf999, za1000, zb1000, zc1000, zd1000, ze1000, zf1000, za1440, zb1440, zc1440, zd1440, ze1440, zf1440, zp1, zp2, zp3, zp8, zp40, zq8, zq10, zq40, nI_leI, nI_ltI, nI_eq, px_inbT, nI_clamp, nI_add, pk_m1, if_pos, if_neg, eX2_addHole_2_2, eX2_addHole_2_3, eX2_addHole_2_5, eX2_addHole_2_6, eX2_addHole_2_7, eX2_addHole_2_8, eX2_addHole_23, fd_g4 h, h4, fd_g5 h, fd_ga h, hr k (Nat.le_refl _) (by omega), if_false]
    exact c_hole_hit h h4 hhc v hq he g (k + 1) (by omega) (fun r h1 h2 => hr r (by omega) h2)
theorem c_addHole_dup {p : Nat} {F H : Nat → Int32} (h : fdAt D p F H) {hc : Nat} (h4 : F 4 = nI hc) (hhc : hc ≤ 8) (v : Int32) (hd : ∃ q, q < hc ∧ H q = v) : px_ex px_tab (d + 1) 25 [Value.ref (111 + p), Value.int (v)] (hp (M) (J) (R) (c) (e) nL xs (D)) = some (some (Value.int (-3)), (hp (M) (J) (R) (c) (e) nL xs (D))) := by
  obtain ⟨q, ⟨hq, he⟩, hm⟩ := pk_least (fun q => q < hc ∧ H q = v) hd
  rw [xX2_addHole, eX2_addHole_0]
  exact c_hole_hit _ _ _ _ _ _ _ _ _ h h4 hhc v hq he q 0 (by omega) (fun r _ hr hv => hm r hr ⟨by omega, hv⟩)
theorem c_addHole_full {p : Nat} {F H : Nat → Int32} (h : fdAt D p F H) (h4 : F 4 = nI 8) (v : Int32) (hd : ∀ q, q < 8 → ¬ H q = v) : px_ex px_tab (d + 1) 25 [Value.ref (111 + p), Value.int (v)] (hp (M) (J) (R) (c) (e) nL xs (D)) = some (some (Value.int (-4)), (hp (M) (J) (R) (c) (e) nL xs (D))) := by
  rw [xX2_addHole, eX2_addHole_0, show (0 : Int32) = nI 0 from rfl, c_hole_no _ _ _ _ _ _ _ _ _ h h4 (Nat.le_refl _) v 8 0 rfl (fun q _ hq => hd q hq)]
  simp (disch := omega) only [px_bd_s, px_psh_s, px_psh_n, px_vb_s, px_ib_s, px_wb_s, px_bo_s, px_bo_n, Bool.cond_decide, cond_true, cond_false, ite_not, Bool.and_true, if_true, if_false, not_true_eq_false, not_false_eq_true, i10, eq_self, decide_true, decide_false, Bool.or_true, Bool.true_or, Bool.or_false, Bool.false_or, za0, zb0, zc0, zd0, ze0, zf0, za1, zb1, zc1, zd1, ze1, zf1, za2, zb2, zc2, zd2, ze2, zf2, za3, zb3, zc3, zd3, ze3, zf3, za4, zb4, zc4, zd4, ze4, zf4, za5, zb5, zc5, zd5, ze5, zf5, za6, zb6, zc6, zd6, ze6, zf6, za7, zb7, zc7, zd7, ze7, zf7, za8, zb8, zc8, zd8, ze8, zf8, za9, zb9, zc9, zd9, ze9, zf9, za10, zb10, zc10, zd10, ze10, zf10, za20, zb20, zc20, zd20, ze20, zf20, za24, zb24, zc24, zd24, ze24, zf24, za39, zb39, zc39, zd39, ze39, zf39, za40, zb40, zc40, zd40, ze40, zf40, za50, zb50, zc50, zd50, ze50, zf50, za51, zb51, zc51, zd51, ze51, zf51, za60, zb60, zc60, zd60, ze60, zf60, za90, zb90, zc90, zd90, ze90, zf90, za99, zb99, zc99, zd99, ze99, zf99, za100, zb100, zc100, zd100, ze100, zf100, za101, zb101, zc101, zd101, ze101, zf101, za120, zb120, zc120, zd120, ze120, zf120, za160, zb160, zc160, zd160, ze160, zf160, za200, zb200, zc200, zd200, ze200, zf200, za400, zb400, zc400, zd400, ze400, zf400, za999, zb999, zc999, zd999, ze999, zf999, za1000, zb1000, zc1000, zd1000, ze1000, zf1000, za1440, zb1440, zc1440, zd1440, ze1440, zf1440, zp1, zp2, zp3, zp8, zp40, zq8, zq10, zq40, nI_leI, nI_ltI, nI_eq, px_inbT, nI_clamp, nI_add, pk_m1, if_pos, if_neg, eX2_addHole_29, eX2_addHole_29_1, eX2_addHole_29_2, fd_g4 h, h4]
theorem c_addHole {p : Nat} {F H : Nat → Int32} (h : fdAt D p F H) {hc : Nat} (h4 : F 4 = nI hc) (hhc : hc < 8) (v : Int32) (hd : ∀ q, q < hc → ¬ H q = v) : px_ex px_tab (d + 1) 25 [Value.ref (111 + p), Value.int (v)] (hp (M) (J) (R) (c) (e) nL xs (D)) = some (some (Value.int (nI (hc + 1))), (hp (M) (J) (R) (c) (e) nL xs ((D.set (p + 1) (.inl (0, 8, .inl (upd H hc v)))).set p (fdc p (upd F 4 (nI (hc + 1))))))) := by
  have h1 := fdAt_setH h (upd H hc v)
  have h2 := fdAt_set h1 (upd F 4 (nI (hc + 1)))
  rw [xX2_addHole, eX2_addHole_0, show (0 : Int32) = nI 0 from rfl, c_hole_no _ _ _ _ _ _ _ _ _ h h4 (by omega) v hc 0 (by omega) (fun q _ hq => hd q hq)]
  simp (disch := omega) only [px_bd_s, px_psh_s, px_psh_n, px_vb_s, px_ib_s, px_wb_s, px_bo_s, px_bo_n, Bool.cond_decide, cond_true, cond_false, ite_not, Bool.and_true, if_true, if_false, not_true_eq_false, not_false_eq_true, i10, eq_self, decide_true, decide_false, Bool.or_true, Bool.true_or, Bool.or_false, Bool.false_or, za0, zb0, zc0, zd0, ze0, zf0, za1, zb1, zc1, zd1, ze1, zf1, za2, zb2, zc2, zd2, ze2, zf2, za3, zb3, zc3, zd3, ze3, zf3, za4, zb4, zc4, zd4, ze4, zf4, za5, zb5, zc5, zd5, ze5, zf5, za6, zb6, zc6, zd6, ze6, zf6, za7, zb7, zc7, zd7, ze7, zf7, za8, zb8, zc8, zd8, ze8, zf8, za9, zb9, zc9, zd9, ze9, zf9, za10, zb10, zc10, zd10, ze10, zf10, za20, zb20, zc20, zd20, ze20, zf20, za24, zb24, zc24, zd24, ze24, zf24, za39, zb39, zc39, zd39, ze39, zf39, za40, zb40, zc40, zd40, ze40, zf40, za50, zb50, zc50, zd50, ze50, zf50, za51, zb51, zc51, zd51, ze51, zf51, za60, zb60, zc60, zd60, ze60, zf60, za90, zb90, zc90, zd90, ze90, zf90, za99, zb99, zc99, zd99, ze99, zf99, za100, zb100, zc100, zd100, ze100, zf100, za101, zb101, zc101, zd101, ze101, zf101, za120, zb120, zc120, zd120, ze120, zf120, za160, zb160, zc160, zd160, ze160, zf160, za200, zb200, zc200, zd200, ze200, zf200, za400, zb400, zc400, zd400, ze400, zf400, za999, zb999, zc999, zd999, ze999, zf999, za1000, zb1000, zc1000, zd1000, ze1000, zf1000, za1440, zb1440, zc1440, zd1440, ze1440, zf1440, zp1, zp2, zp3, zp8, zp40, zq8, zq10, zq40, nI_leI, nI_ltI, nI_eq, px_inbT, nI_clamp, nI_add, pk_m1, if_pos, if_neg, eX2_addHole_2_2, eX2_addHole_2_3, eX2_addHole_29, eX2_addHole_2_5, eX2_addHole_29_1, eX2_addHole_2_6, eX2_addHole_29_2, eX2_addHole_2_7, eX2_addHole_41, eX2_addHole_2_8, eX2_addHole_41_1, eX2_addHole_23, eX2_addHole_41_2, eX2_addHole_41_3, eX2_addHole_41_4, eX2_addHole_41_5, eX2_addHole_41_6, eX2_addHole_41_8, eX2_addHole_41_9, eX2_addHole_41_11, eX2_addHole_41_12, eX2_addHole_41_13, eX2_addHole_41_14, fd_g4 h, fd_g5 h, h4, fd_pa h, fd_g4 h1, fd_p4 h1, fd_g4 h2, pk_us]
theorem m_hole_no {i hc : Nat} (hi : i < 20) (h81 : M 81 i = nI hc) (hhc : hc ≤ 8) (v : Int32) : ∀ (g k : Nat), k + g = hc → (∀ q, k ≤ q → q < hc → ¬ M 82 (8 * i + q) = v) → px_run (px_mk (kX12_hole (px_ex px_tab d))) 29 ([some (Value.ref (67)), some (Value.int (nI i)), some (Value.int (v)), some (Value.int (nI (8 * i))), some (Value.int (nI (8 * i + k)))], [], (hp (M) (J) (R) (c) (e) nL xs (D))) = px_run (px_mk (kX12_hole (px_ex px_tab d))) 62 ([some (Value.ref (67)), some (Value.int (nI i)), some (Value.int (v)), some (Value.int (nI (8 * i))), some (Value.int (nI (8 * i + hc)))], [], (hp (M) (J) (R) (c) (e) nL xs (D)))
  | 0, k, hk, _ => by
    rw [eX12_hole_29]
    simp (disch := omega) only [px_bd_s, px_psh_s, px_psh_n, px_vb_s, px_ib_s, px_wb_s, px_bo_s, px_bo_n, Bool.cond_decide, cond_true, cond_false, ite_not, Bool.and_true, if_true, if_false, not_true_eq_false, not_false_eq_true, i10, eq_self, decide_true, decide_false, Bool.or_true, Bool.true_or, Bool.or_false, Bool.false_or, za0, zb0, zc0, zd0, ze0, zf0, za1, zb1, zc1, zd1, ze1, zf1, za2, zb2, zc2, zd2, ze2, zf2, za3, zb3, zc3, zd3, ze3, zf3, za4, zb4, zc4, zd4, ze4, zf4, za5, zb5, zc5, zd5, ze5, zf5, za6, zb6, zc6, zd6, ze6, zf6, za7, zb7, zc7, zd7, ze7, zf7, za8, zb8, zc8, zd8, ze8, zf8, za9, zb9, zc9, zd9, ze9, zf9, za10, zb10, zc10, zd10, ze10, zf10, za20, zb20, zc20, zd20, ze20, zf20, za24, zb24, zc24, zd24, ze24, zf24, za39, zb39, zc39, zd39, ze39, zf39, za40, zb40, zc40, zd40, ze40, zf40, za50, zb50, zc50, zd50, ze50, zf50, za51, zb51, zc51, zd51, ze51, zf51, za60, zb60, zc60, zd60, ze60, zf60, za90, zb90, zc90, zd90, ze90, zf90, za99, zb99, zc99, zd99, ze99, zf99, za100, zb100, zc100, zd100, ze100, zf100, za101, zb101, zc101, zd101, ze101, zf101, za120, zb120, zc120, zd120, ze120, zf120, za160, zb160, zc160, zd160, ze160, zf160, za200, zb200, zc200, zd200, ze200, zf200, za400, zb400, zc400, zd400, ze400, zf400, za999, zb999, zc999, zd999, ze999, zf999, za1000, zb1000, zc1000, zd1000, ze1000, zf1000, za1440, zb1440, zc1440, zd1440, ze1440, zf1440, zp1, zp2, zp3, zp8, zp40, zq8, zq10, zq40, nI_leI, nI_ltI, nI_eq, px_inbT, nI_clamp, nI_add, pk_m1, if_pos, if_neg, h81]
    rw [show k = hc from by omega]
  | g + 1, k, hk, hq => by
    rw [eX12_hole_29]
    simp (disch := omega) only [px_bd_s, px_psh_s, px_psh_n, px_vb_s, px_ib_s, px_wb_s, px_bo_s, px_bo_n, Bool.cond_decide, cond_true, cond_false, ite_not, Bool.and_true, if_true, if_false, not_true_eq_false, not_false_eq_true, i10, eq_self, decide_true, decide_false, Bool.or_true, Bool.true_or, Bool.or_false, Bool.false_or, za0, zb0, zc0, zd0, ze0, zf0, za1, zb1, zc1, zd1, ze1, zf1, za2, zb2, zc2, zd2, ze2, zf2, za3, zb3, zc3, zd3, ze3, zf3, za4, zb4, zc4, zd4, ze4, zf4, za5, zb5, zc5, zd5, ze5, zf5, za6, zb6, zc6, zd6, ze6, zf6, za7, zb7, zc7, zd7, ze7, zf7, za8, zb8, zc8, zd8, ze8, zf8, za9, zb9, zc9, zd9, ze9, zf9, za10, zb10, zc10, zd10, ze10, zf10, za20, zb20, zc20, zd20, ze20, zf20, za24, zb24, zc24, zd24, ze24, zf24, za39, zb39, zc39, zd39, ze39, zf39, za40, zb40, zc40, zd40, ze40, zf40, za50, zb50, zc50, zd50, ze50, zf50, za51, zb51, zc51, zd51, ze51, zf51, za60, zb60, zc60, zd60, ze60, zf60, za90, zb90, zc90, zd90, ze90, zf90, za99, zb99, zc99, zd99, ze99, zf99, za100, zb100, zc100, zd100, ze100, zf100, za101, zb101, zc101, zd101, ze101, zf101, za120, zb120, zc120, zd120, ze120, zf120, za160, zb160, zc160, zd160, ze160, zf160, za200, zb200, zc200, zd200, ze200, zf200, za400, zb400, zc400, zd400, ze400, zf400, za999, zb999, zc999, zd999, ze999, zf999, za1000, zb1000, zc1000, zd1000, ze1000, zf1000, za1440, zb1440, zc1440, zd1440, ze1440, zf1440, zp1, zp2, zp3, zp8, zp40, zq8, zq10, zq40, nI_leI, nI_ltI, nI_eq, px_inbT, nI_clamp, nI_add, pk_m1, if_pos, if_neg, h81, eX12_hole_56, hq k (Nat.le_refl _) (by omega), if_false]
    exact m_hole_no hi h81 hhc v g (k + 1) (by omega) (fun q h1 h2 => hq q (by omega) h2)
theorem m_hole_hit {i hc : Nat} (hi : i < 20) (h81 : M 81 i = nI hc) (hhc : hc ≤ 8) (v : Int32) {q : Nat} (hq : q < hc) (he : M 82 (8 * i + q) = v) : ∀ (g k : Nat), k + g = q → (∀ r, k ≤ r → r < q → ¬ M 82 (8 * i + r) = v) → px_run (px_mk (kX12_hole (px_ex px_tab d))) 29 ([some (Value.ref (67)), some (Value.int (nI i)), some (Value.int (v)), some (Value.int (nI (8 * i))), some (Value.int (nI (8 * i + k)))], [], (hp (M) (J) (R) (c) (e) nL xs (D))) = some (some (Value.int (-3)), (hp (M) (J) (R) (c) (e) nL xs (D)))
  | 0, k, hk, _ => by
    rw [eX12_hole_29, show k = q from by omega]
    simp (disch := omega) only [px_bd_s, px_psh_s, px_psh_n, px_vb_s, px_ib_s, px_wb_s, px_bo_s, px_bo_n, Bool.cond_decide, cond_true, cond_false, ite_not, Bool.and_true, if_true, if_false, not_true_eq_false, not_false_eq_true, i10, eq_self, decide_true, decide_false, Bool.or_true, Bool.true_or, Bool.or_false, Bool.false_or, za0, zb0, zc0, zd0, ze0, zf0, za1, zb1, zc1, zd1, ze1, zf1, za2, zb2, zc2, zd2, ze2, zf2, za3, zb3, zc3, zd3, ze3, zf3, za4, zb4, zc4, zd4, ze4, zf4, za5, zb5, zc5, zd5, ze5, zf5, za6, zb6, zc6, zd6, ze6, zf6, za7, zb7, zc7, zd7, ze7, zf7, za8, zb8, zc8, zd8, ze8, zf8, za9, zb9, zc9, zd9, ze9, zf9, za10, zb10, zc10, zd10, ze10, zf10, za20, zb20, zc20, zd20, ze20, zf20, za24, zb24, zc24, zd24, ze24, zf24, za39, zb39, zc39, zd39, ze39, zf39, za40, zb40, zc40, zd40, ze40, zf40, za50, zb50, zc50, zd50, ze50, zf50, za51, zb51, zc51, zd51, ze51, zf51, za60, zb60, zc60, zd60, ze60, zf60, za90, zb90, zc90, zd90, ze90, zf90, za99, zb99, zc99, zd99, ze99, zf99, za100, zb100, zc100, zd100, ze100, zf100, za101, zb101, zc101, zd101, ze101, zf101, za120, zb120, zc120, zd120, ze120, zf120, za160, zb160, zc160, zd160, ze160, zf160, za200, zb200, zc200, zd200, ze200, zf200, za400, zb400, zc400, zd400, ze400, zf400, za999, zb999, zc999, zd999, ze999, zf999, za1000, zb1000, zc1000, zd1000, ze1000, zf1000, za1440, zb1440, zc1440, zd1440, ze1440, zf1440, zp1, zp2, zp3, zp8, zp40, zq8, zq10, zq40, nI_leI, nI_ltI, nI_eq, px_inbT, nI_clamp, nI_add, pk_m1, if_pos, if_neg, h81, he, if_true]
  | g + 1, k, hk, hr => by
    rw [eX12_hole_29]
    simp (disch := omega) only [px_bd_s, px_psh_s, px_psh_n, px_vb_s, px_ib_s, px_wb_s, px_bo_s, px_bo_n, Bool.cond_decide, cond_true, cond_false, ite_not, Bool.and_true, if_true, if_false, not_true_eq_false, not_false_eq_true, i10, eq_self, decide_true, decide_false, Bool.or_true, Bool.true_or, Bool.or_false, Bool.false_or, za0, zb0, zc0, zd0, ze0, zf0, za1, zb1, zc1, zd1, ze1, zf1, za2, zb2, zc2, zd2, ze2, zf2, za3, zb3, zc3, zd3, ze3, zf3, za4, zb4, zc4, zd4, ze4, zf4, za5, zb5, zc5, zd5, ze5, zf5, za6, zb6, zc6, zd6, ze6, zf6, za7, zb7, zc7, zd7, ze7, zf7, za8, zb8, zc8, zd8, ze8, zf8, za9, zb9, zc9, zd9, ze9, zf9, za10, zb10, zc10, zd10, ze10, zf10, za20, zb20, zc20, zd20, ze20, zf20, za24, zb24, zc24, zd24, ze24, zf24, za39, zb39, zc39, zd39, ze39, zf39, za40, zb40, zc40, zd40, ze40, zf40, za50, zb50, zc50, zd50, ze50, zf50, za51, zb51, zc51, zd51, ze51, zf51, za60, zb60, zc60, zd60, ze60, zf60, za90, zb90, zc90, zd90, ze90, zf90, za99, zb99, zc99, zd99, ze99, zf99, za100, zb100, zc100, zd100, ze100, zf100, za101, zb101, zc101, zd101, ze101, zf101, za120, zb120, zc120, zd120, ze120, zf120, za160, zb160, zc160, zd160, ze160, zf160, za200, zb200, zc200, zd200, ze200, zf200, za400, zb400, zc400, zd400, ze400, zf400, za999, zb999, zc999, zd999, ze999, zf999, za1000, zb1000, zc1000, zd1000, ze1000, zf1000, za1440, zb1440, zc1440, zd1440, ze1440, zf1440, zp1, zp2, zp3, zp8, zp40, zq8, zq10, zq40, nI_leI, nI_ltI, nI_eq, px_inbT, nI_clamp, nI_add, pk_m1, if_pos, if_neg, h81, eX12_hole_56, hr k (Nat.le_refl _) (by omega), if_false]
    exact m_hole_hit hi h81 hhc v hq he g (k + 1) (by omega) (fun r h1 h2 => hr r (by omega) h2)
theorem m_hole_c {n : Nat} (hn : n ≤ 20) (h67 : M 67 13 = nI n) {i : Nat} (hi : i < n) (hk : M 77 i = 1) {v : Int32} (hv : 0 ≤ v ∧ v ≤ 99) : px_ex px_tab (d + 4) 184 [Value.ref (67), Value.int (nI i), Value.int (v)] (hp (M) (J) (R) (c) (e) nL xs (D)) = px_run (px_mk (kX12_hole (px_ex px_tab (d + 3)))) 29 ([some (.ref 67), some (.int (nI i)), some (.int v), some (.int (nI (8 * i))), some (.int (nI (8 * i + 0)))], [], (hp M J R c e nL xs D)) := by
  rw [xX12_hole]
  simp (disch := omega) only [px_bd_s, px_psh_s, px_psh_n, px_vb_s, px_ib_s, px_wb_s, px_bo_s, px_bo_n, Bool.cond_decide, cond_true, cond_false, ite_not, Bool.and_true, if_true, if_false, not_true_eq_false, not_false_eq_true, i10, eq_self, decide_true, decide_false, Bool.or_true, Bool.true_or, Bool.or_false, Bool.false_or, eX12_hole_0, eX12_hole_0_3, eX12_hole_0_8, eX12_hole_21, m_isTimber _ _ _ _ _ _ _ _ _ hn h67 i hi, hk, c_in, px_in_1 hv, zq8]
  all_goals simp
theorem t_hole (hI : IFd M R D) (v u : Int32) : ∃ w D1 M2, px_ex px_tab (d + 4) 130 [Value.ref (13), Value.int (v), Value.int (u)] (hp (M) (J) (R) (c) (e) nL xs (D)) = some (some (Value.int (w)), (hp (M) (J) (R) (c) (e) nL xs (D1))) ∧ px_ex px_tab (d + 4) 184 [Value.ref (67), Value.int (v), Value.int (u)] (hp (M) (J) (R) (c) (e) nL xs (D1)) = some (some (Value.int (w)), (hp (M2) (J) (R) (c) (e) nL xs (D1))) ∧ IFd M2 R D1 ∧ frm [81, 82] [] M M2 ∧ (∀ q V, dvAt D q V → dvAt D1 q V) ∧ grow D D1 := by
  obtain ⟨n, P, H, hF⟩ := hI
  have hn := hF.1
  have bad : ∀ (_ : px_ex px_tab (d + 3) 112 [Value.ref (28), Value.int (v)] (hp (M) (J) (R) (c) (e) nL xs (D)) = some (some (Value.null), (hp (M) (J) (R) (c) (e) nL xs (D)))) (_ : px_ex px_tab (d + 3) 183 [Value.ref (67), Value.int (v)] (hp (M) (J) (R) (c) (e) nL xs (D)) = some (some (Value.int (0)), (hp (M) (J) (R) (c) (e) nL xs (D)))), ∃ w D1 M2, px_ex px_tab (d + 4) 130 [Value.ref (13), Value.int (v), Value.int (u)] (hp (M) (J) (R) (c) (e) nL xs (D)) = some (some (Value.int (w)), (hp (M) (J) (R) (c) (e) nL xs (D1))) ∧ px_ex px_tab (d + 4) 184 [Value.ref (67), Value.int (v), Value.int (u)] (hp (M) (J) (R) (c) (e) nL xs (D1)) = some (some (Value.int (w)), (hp (M2) (J) (R) (c) (e) nL xs (D1))) ∧ IFd M2 R D1 ∧ frm [81, 82] [] M M2 ∧ (∀ q V, dvAt D q V → dvAt D1 q V) ∧ grow D D1 := by
    intro h1 h2
    refine ⟨-2, D, M, ?_, ?_, ⟨n, P, H, hF⟩, frm.rf _ _ _, fun _ _ h => h, grow.rf _⟩
    · rw [xX11_hole]
      simp only [px_bd_s, px_psh_s, px_psh_n, px_vb_s, px_ib_s, px_wb_s, px_bo_s, px_bo_n, Bool.cond_decide, cond_true, cond_false, ite_not, Bool.and_true, if_true, if_false, not_true_eq_false, not_false_eq_true, i10, eq_self, decide_true, decide_false, Bool.or_true, Bool.true_or, Bool.or_false, Bool.false_or, eX11_hole_0, eX11_hole_0_4, eX11_hole_0_4_b, eX11_hole_23, eX11_hole_26, eX11_hole_26_2, eX11_hole_26_3, h1]
    · rw [xX12_hole]
      simp [px_bd_s, px_psh_s, px_psh_n, px_vb_s, px_ib_s, px_wb_s, px_bo_s, px_bo_n, Bool.cond_decide, cond_true, cond_false, ite_not, Bool.and_true, if_true, if_false, not_true_eq_false, not_false_eq_true, i10, eq_self, decide_true, decide_false, Bool.or_true, Bool.true_or, Bool.or_false, Bool.false_or, eX12_hole_0, eX12_hole_0_3, eX12_hole_18, eX12_hole_0_8, eX12_hole_21, eX12_hole_62, eX12_hole_56, eX12_hole_76, h2]
  rcases pk_ix v (n := n) (by omega) with h | h | ⟨i, hi, rfl⟩
  · exact bad (c_timberAt_n (d + 1) _ _ _ _ _ _ _ _ hF.2.1 v (Or.inl h)) (m_isTimber_n _ _ _ _ _ _ _ _ _ hn hF.2.2.1 v (Or.inl h))
  · exact bad (c_timberAt_n (d + 1) _ _ _ _ _ _ _ _ hF.2.1 v (Or.inr h)) (m_isTimber_n _ _ _ _ _ _ _ _ _ hn hF.2.2.1 v (Or.inr h))
  obtain ⟨h1, h2, h3, h4⟩ := hF.2.2.2.2.1 i hi
  by_cases hk : M 77 i = 1
  · have ct := c_timberAt (d + 1) M J R c e nL xs D hn hF.2.1 i hi h1 h2
    rw [if_pos (show fdF (M 77) (M 78) (M 79) (M 80) (M 81) (M 83) (M 84) i 0 = 1 from hk)] at ct
    by_cases hu : 0 ≤ u ∧ u ≤ 99
    · have cc : ∀ r, px_ex px_tab (d + 3) 25 [Value.ref (111 + P i), Value.int (u)] (hp (M) (J) (R) (c) (e) nL xs (D)) = r → (∀ w D1, r = some (some (Value.int (w)), (hp (M) (J) (R) (c) (e) nL xs (D1))) → px_ex px_tab (d + 4) 130 [Value.ref (13), Value.int (nI i), Value.int (u)] (hp (M) (J) (R) (c) (e) nL xs (D)) = some (some (Value.int (w)), (hp (M) (J) (R) (c) (e) nL xs (D1)))) := by
        rintro r hr w D1 rfl
        rw [xX11_hole]
        simp only [px_bd_s, px_psh_s, px_psh_n, px_vb_s, px_ib_s, px_wb_s, px_bo_s, px_bo_n, Bool.cond_decide, cond_true, cond_false, ite_not, Bool.and_true, if_true, if_false, not_true_eq_false, not_false_eq_true, i10, eq_self, decide_true, decide_false, Bool.or_true, Bool.true_or, Bool.or_false, Bool.false_or, eX11_hole_0, eX11_hole_0_4, eX11_hole_0_4_b, eX11_hole_23, eX11_hole_26, eX11_hole_26_2, eX11_hole_26_3, ct, Int32.not_lt.mpr hu.1, hu.2, if_true, if_false, fd_isc h2, hr]
      obtain ⟨hc, hhc, h81⟩ := h3.2.2.2.2.1
      have e4 : fdF (M 77) (M 78) (M 79) (M 80) (M 81) (M 83) (M 84) i 4 = nI hc := h81
      have hrow : ∀ q, q < hc → M 82 (8 * i + q) = H i q := fun q hq => h4 q (by omega) (by rw [h81]; exact nI_lt hq (by omega))
      by_cases hd : ∃ q, q < hc ∧ H i q = u
      · refine ⟨-3, D, M, cc _ (c_addHole_dup (d + 2) _ _ _ _ _ _ _ _ h2 e4 hhc u hd) _ _ rfl, ?_, ⟨n, P, H, hF⟩, frm.rf _ _ _, fun _ _ h => h, grow.rf _⟩
        rw [m_hole_c _ _ _ _ _ _ _ _ _ hn hF.2.2.1 hi hk hu]
        obtain ⟨q, ⟨hq, he⟩, hm⟩ := pk_least (fun q => q < hc ∧ H i q = u) hd
        exact m_hole_hit (d + 3) _ _ _ _ _ _ _ _ (by omega) h81 hhc u hq ((hrow q hq).trans he) q 0 (by omega) (fun r _ hr hv => hm r hr ⟨by omega, (hrow r (by omega)).symm.trans hv⟩)
      · have hd2 : ∀ q, q < hc → ¬ H i q = u := fun q hq he => hd ⟨q, hq, he⟩
        have hmod := (m_hole_c d M J R c e nL xs D hn hF.2.2.1 hi hk hu).trans (m_hole_no (d + 3) M J R c e nL xs D (by omega) h81 hhc u hc 0 (by omega) (fun q _ hq he => hd2 q hq ((hrow q hq).symm.trans he)))
        by_cases h8 : hc = 8
        · subst h8
          refine ⟨-4, D, M, cc _ (c_addHole_full (d + 2) _ _ _ _ _ _ _ _ h2 e4 u hd2) _ _ rfl, hmod.trans ?_, ⟨n, P, H, hF⟩, frm.rf _ _ _, fun _ _ h => h, grow.rf _⟩
          simp (disch := omega) only [px_bd_s, px_psh_s, px_psh_n, px_vb_s, px_ib_s, px_wb_s, px_bo_s, px_bo_n, Bool.cond_decide, cond_true, cond_false, ite_not, Bool.and_true, if_true, if_false, not_true_eq_false, not_false_eq_true, i10, eq_self, decide_true, decide_false, Bool.or_true, Bool.true_or, Bool.or_false, Bool.false_or, za0, zb0, zc0, zd0, ze0, zf0, za1, zb1, zc1, zd1, ze1, zf1, za2, zb2, zc2, zd2, ze2, zf2, za3, zb3, zc3, zd3, ze3, zf3, za4, zb4, zc4, zd4, ze4, zf4, za5, zb5, zc5, zd5, ze5, zf5, za6, zb6, zc6, zd6, ze6, zf6, za7, zb7, zc7, zd7, ze7, zf7, za8, zb8, zc8, zd8, ze8, zf8, za9, zb9, zc9, zd9, ze9, zf9, za10, zb10, zc10, zd10, ze10, zf10, za20, zb20, zc20, zd20, ze20, zf20, za24, zb24, zc24, zd24, ze24, zf24, za39, zb39, zc39, zd39, ze39, zf39, za40, zb40, zc40, zd40, ze40, zf40, za50, zb50, zc50, zd50, ze50, zf50, za51, zb51, zc51, zd51, ze51, zf51, za60, zb60, zc60, zd60, ze60, zf60, za90, zb90, zc90, zd90, ze90, zf90, za99, zb99, zc99, zd99, ze99, zf99, za100, zb100, zc100, zd100, ze100, zf100, za101, zb101, zc101, zd101, ze101, zf101, za120, zb120, zc120, zd120, ze120, zf120, za160, zb160, zc160, zd160, ze160, zf160, za200, zb200, zc200, zd200, ze200, zf200, za400, zb400, zc400, zd400, ze400, zf400, za999, zb999, zc999, zd999, ze999, zf999, za1000, zb1000, zc1000, zd1000, ze1000, zf1000, za1440, zb1440, zc1440, zd1440, ze1440, zf1440, zp1, zp2, zp3, zp8, zp40, zq8, zq10, zq40, nI_leI, nI_ltI, nI_eq, px_inbT, nI_clamp, nI_add, pk_m1, if_pos, if_neg, eX12_hole_62, h81]
        · have f1 := fd_frH h2 (upd (H i) hc u)
          have a1 := fdAt_setH h2 (upd (H i) hc u)
          have f2 := fd_fr a1 (upd (fdF (M 77) (M 78) (M 79) (M 80) (M 81) (M 83) (M 84) i) 4 (nI (hc + 1)))
          have a2 := fdAt_set a1 (upd (fdF (M 77) (M 78) (M 79) (M 80) (M 81) (M 83) (M 84) i) 4 (nI (hc + 1)))
          have hmod := (m_hole_c d M J R c e nL xs ((D.set (P i + 1) (.inl (0, 8, .inl (upd (H i) hc u)))).set (P i) (fdc (P i) (upd (fdF (M 77) (M 78) (M 79) (M 80) (M 81) (M 83) (M 84) i) 4 (nI (hc + 1))))) hn hF.2.2.1 hi hk hu).trans (m_hole_no (d + 3) M J R c e nL xs _ (by omega) h81 hhc u hc 0 (by omega) (fun q _ hq he => hd2 q hq ((hrow q hq).symm.trans he)))
          refine ⟨nI (hc + 1), _, px_uR (px_uR M 82 (upd (M 82) (8 * i + hc) u)) 81 (upd (M 81) i (nI (hc + 1))), cc _ (c_addHole (d + 2) _ _ _ _ _ _ _ _ h2 e4 (by omega) u hd2) _ _ rfl, hmod.trans ?_, ?_, ?_, ?_, ?_⟩
          · simp (disch := omega) only [px_bd_s, px_psh_s, px_psh_n, px_vb_s, px_ib_s, px_wb_s, px_bo_s, px_bo_n, Bool.cond_decide, cond_true, cond_false, ite_not, Bool.and_true, if_true, if_false, not_true_eq_false, not_false_eq_true, i10, eq_self, decide_true, decide_false, Bool.or_true, Bool.true_or, Bool.or_false, Bool.false_or, za0, zb0, zc0, zd0, ze0, zf0, za1, zb1, zc1, zd1, ze1, zf1, za2, zb2, zc2, zd2, ze2, zf2, za3, zb3, zc3, zd3, ze3, zf3, za4, zb4, zc4, zd4, ze4, zf4, za5, zb5, zc5, zd5, ze5, zf5, za6, zb6, zc6, zd6, ze6, zf6, za7, zb7, zc7, zd7, ze7, zf7, za8, zb8, zc8, zd8, ze8, zf8, za9, zb9, zc9, zd9, ze9, zf9, za10, zb10, zc10, zd10, ze10, zf10, za20, zb20, zc20, zd20, ze20, zf20, za24, zb24, zc24, zd24, ze24, zf24, za39, zb39, zc39, zd39, ze39, zf39, za40, zb40, zc40, zd40, ze40, zf40, za50, zb50, zc50, zd50, ze50, zf50, za51, zb51, zc51, zd51, ze51, zf51, za60, zb60, zc60, zd60, ze60, zf60, za90, zb90, zc90, zd90, ze90, zf90, za99, zb99, zc99, zd99, ze99, zf99, za100, zb100, zc100, zd100, ze100, zf100, za101, zb101, zc101, zd101, ze101, zf101, za120, zb120, zc120, zd120, ze120, zf120, za160, zb160, zc160, zd160, ze160, zf160, za200, zb200, zc200, zd200, ze200, zf200, za400, zb400, zc400, zd400, ze400, zf400, za999, zb999, zc999, zd999, ze999, zf999, za1000, zb1000, zc1000, zd1000, ze1000, zf1000, za1440, zb1440, zc1440, zd1440, ze1440, zf1440, zp1, zp2, zp3, zp8, zp40, zq8, zq10, zq40, nI_leI, nI_ltI, nI_eq, px_inbT, nI_clamp, nI_add, pk_m1, if_pos, if_neg, eX12_hole_62, eX12_hole_76, h81, pk_us]
          · refine ⟨n, P, _, IFn_upd hF hi (Hi := upd (H i) hc u) ?_ ?_ ?_ ?_ ?_ ?_⟩
            · exact fun j hj => ⟨pk_un hj, rfl, rfl⟩
            · exact fun j k hj hk => pk_un (by omega)
            · show fdAt _ _ (fdF (M 77) (M 78) (M 79) (M 80) (upd (M 81) i (nI (hc + 1))) (M 83) (M 84) i) _
              rw [← fdF_4]
              exact a2
            · exact fun q F' H' hq h' => f2.1 q F' H' hq (f1.1 q F' H' hq h')
            · exact ⟨h3.1, h3.2.1, h3.2.2.1, h3.2.2.2.1, ⟨hc + 1, by omega, pk_us⟩, h3.2.2.2.2.2⟩
            · intro k hk hk2
              have hk2 : nI k < upd (M 81) i (nI (hc + 1)) i := hk2
              rw [pk_us, nI_ltI (by omega) (by omega)] at hk2
              show upd (M 82) (8 * i + hc) u (8 * i + k) = upd (H i) hc u k
              by_cases hkc : k = hc
              · rw [hkc, pk_us, pk_us]
              · rw [pk_un (by omega), pk_un hkc]
                exact hrow k (by omega)
          · exact ((frm.rf _ _ _).u 82 _ (by decide) (by decide)).u 81 _ (by decide) (by decide)
          · exact fun q V h => f2.2.1 q V (f1.2.1 q V h)
          · exact (f1.2.2.tr f2.2.2).g
    · refine ⟨-2, D, M, ?_, ?_, ⟨n, P, H, hF⟩, frm.rf _ _ _, fun _ _ h => h, grow.rf _⟩
      · rw [xX11_hole]
        simp only [px_bd_s, px_psh_s, px_psh_n, px_vb_s, px_ib_s, px_wb_s, px_bo_s, px_bo_n, Bool.cond_decide, cond_true, cond_false, ite_not, Bool.and_true, if_true, if_false, not_true_eq_false, not_false_eq_true, i10, eq_self, decide_true, decide_false, Bool.or_true, Bool.true_or, Bool.or_false, Bool.false_or, eX11_hole_0, eX11_hole_0_4, eX11_hole_0_4_b, eX11_hole_23, eX11_hole_26, eX11_hole_26_2, eX11_hole_26_3, ct]
        by_cases h5 : u < 0
        · simp [h5]
        · have h6 : ¬ u ≤ 99 := fun q => hu ⟨Int32.not_lt.mp h5, q⟩
          simp [h5, h6]
      · rw [xX12_hole]
        simp (disch := omega) only [px_bd_s, px_psh_s, px_psh_n, px_vb_s, px_ib_s, px_wb_s, px_bo_s, px_bo_n, Bool.cond_decide, cond_true, cond_false, ite_not, Bool.and_true, if_true, if_false, not_true_eq_false, not_false_eq_true, i10, eq_self, decide_true, decide_false, Bool.or_true, Bool.true_or, Bool.or_false, Bool.false_or, eX12_hole_0, eX12_hole_0_3, eX12_hole_18, eX12_hole_0_8, eX12_hole_21, eX12_hole_62, eX12_hole_56, eX12_hole_76, m_isTimber _ _ _ _ _ _ _ _ _ hn hF.2.2.1 i hi, hk, c_in, px_in_00 hu]
        all_goals simp
  · have ct := c_timberAt (d + 1) M J R c e nL xs D hn hF.2.1 i hi h1 h2
    rw [if_neg (show ¬ fdF (M 77) (M 78) (M 79) (M 80) (M 81) (M 83) (M 84) i 0 = 1 from hk)] at ct
    have mt := m_isTimber d M J R c e nL xs D hn hF.2.2.1 i hi
    rw [if_neg hk] at mt
    exact bad ct mt
/-- TAKE -/
theorem c_goOut {p : Nat} {F H : Nat → Int32} (h : fdAt D p F H) : px_ex px_tab (d + 1) 29 [Value.ref (111 + p)] (hp (M) (J) (R) (c) (e) nL xs (D)) = some (none, (hp (M) (J) (R) (c) (e) nL xs (D.set p (fdc p (upd (upd F 7 (-1)) 8 (-1)))))) := by
  have h1 := fdAt_set h (upd F 7 (-1))
  rw [xX2_goOut]
  simp only [px_bd_s, px_psh_s, px_psh_n, px_vb_s, px_ib_s, px_wb_s, px_bo_s, px_bo_n, Bool.cond_decide, cond_true, cond_false, ite_not, Bool.and_true, if_true, if_false, not_true_eq_false, not_false_eq_true, i10, eq_self, decide_true, decide_false, Bool.or_true, Bool.true_or, Bool.or_false, Bool.false_or, eX2_goOut_0, eX2_goOut_0_2, eX2_goOut_0_3, eX2_goOut_0_5, eX2_goOut_0_6, fd_p7 h, fd_p8 h1, List.set_set]
theorem c_goInto {p : Nat} {F H : Nat → Int32} (h : fdAt D p F H) (t y : Int32) : px_ex px_tab (d + 1) 28 [Value.ref (111 + p), Value.int (t), Value.int (y)] (hp (M) (J) (R) (c) (e) nL xs (D)) = some (none, (hp (M) (J) (R) (c) (e) nL xs (D.set p (fdc p (upd (upd (upd F 6 0) 7 t) 8 y))))) := by
  have h1 := fdAt_set h (upd F 6 0)
  have h2 := fdAt_set h1 (upd (upd F 6 0) 7 t)
  rw [List.set_set] at h2
  rw [xX2_goInto]
  simp only [px_bd_s, px_psh_s, px_psh_n, px_vb_s, px_ib_s, px_wb_s, px_bo_s, px_bo_n, Bool.cond_decide, cond_true, cond_false, ite_not, Bool.and_true, if_true, if_false, not_true_eq_false, not_false_eq_true, i10, eq_self, decide_true, decide_false, Bool.or_true, Bool.true_or, Bool.or_false, Bool.false_or, eX2_goInto_0, eX2_goInto_0_2, eX2_goInto_0_3, eX2_goInto_0_5, eX2_goInto_0_6, eX2_goInto_0_8, eX2_goInto_0_9, fd_p6 h, fd_p7 h1, fd_p8 h2, List.set_set]
  all_goals simp
theorem fdF_6 (kd sq la sz hc tk cm : Nat → Int32) (i : Nat) : fdF kd sq la sz hc tk cm i 6 = if tk i = -1 then 1 else 0 := rfl
theorem fdF_7 (kd sq la sz hc tk cm : Nat → Int32) (i : Nat) : fdF kd sq la sz hc tk cm i 7 = if tk i < 0 then -1 else tk i := rfl
theorem fdF_8 (kd sq la sz hc tk cm : Nat → Int32) (i : Nat) : fdF kd sq la sz hc tk cm i 8 = if tk i < 0 then -1 else cm i := rfl
theorem fdF_o (kd sq la sz hc tk cm tk' cm' : Nat → Int32) (i k : Nat) (h6 : k ≠ 6) (h7 : k ≠ 7) (h8 : k ≠ 8) : fdF kd sq la sz hc tk cm i k = fdF kd sq la sz hc tk' cm' i k := by
  unfold fdF
  split <;> first | rfl | omega
theorem fdF_out (kd sq la sz hc tk cm : Nat → Int32) (i : Nat) (h : ¬ tk i < 0) : upd (upd (fdF kd sq la sz hc tk cm i) 7 (-1)) 8 (-1) = fdF kd sq la sz hc (upd tk i (-2)) cm i := by
  funext k
  by_cases h8 : k = 8
  · rw [h8, pk_us, fdF_8, pk_us, if_pos (by decide)]
  · rw [pk_un h8]
    by_cases h7 : k = 7
    · rw [h7, pk_us, fdF_7, pk_us, if_pos (by decide)]
    · rw [pk_un h7]
      by_cases h6 : k = 6
      · rw [h6, fdF_6, fdF_6, pk_us, if_neg (fun q => h (by rw [q]; decide)), if_neg (by decide)]
      · exact fdF_o _ _ _ _ _ _ _ _ _ _ _ h6 h7 h8
theorem fdF_in (kd sq la sz hc tk cm : Nat → Int32) (i : Nat) {t : Nat} (ht : t < 2 ^ 31) (y : Int32) : upd (upd (upd (fdF kd sq la sz hc tk cm i) 6 0) 7 (nI t)) 8 y = fdF kd sq la sz hc (upd tk i (nI t)) (upd cm i y) i := by
  funext k
  by_cases h8 : k = 8
  · rw [h8, pk_us, fdF_8, pk_us, pk_us, if_neg (nI_pos ht)]
  · rw [pk_un h8]
    by_cases h7 : k = 7
    · rw [h7, pk_us, fdF_7, pk_us, if_neg (nI_pos ht)]
    · rw [pk_un h7]
      by_cases h6 : k = 6
      · rw [h6, pk_us, fdF_6, pk_us, if_neg (nI_n1 ht)]
      · rw [pk_un h6]
        exact fdF_o _ _ _ _ _ _ _ _ _ _ _ h6 h7 h8
end S27
section S27b
variable (d : Nat) (M : Nat → Nat → Int32) (J : Nat → Nat → Int64) (R : Nat → Nat → Option Nat) (c e nL : Nat) (xs : Nat → Int32) (D : px_H)
theorem t_take (hI : IFd M R D) (v u : Int32) : ∃ w D1 M2, px_ex px_tab (d + 4) 138 [Value.ref (13), Value.int (v), Value.int (u)] (hp (M) (J) (R) (c) (e) nL xs (D)) = some (some (Value.int (w)), (hp (M) (J) (R) (c) (e) nL xs (D1))) ∧ px_ex px_tab (d + 4) 194 [Value.ref (67), Value.int (v), Value.int (u)] (hp (M) (J) (R) (c) (e) nL xs (D1)) = some (some (Value.int (w)), (hp (M2) (J) (R) (c) (e) nL xs (D1))) ∧ IFd M2 R D1 ∧ frm [83] [] M M2 ∧ (∀ q V, dvAt D q V → dvAt D1 q V) ∧ grow D D1 := by
  obtain ⟨n, P, H, hF⟩ := hI
  have hn := hF.1
  have bad : ∀ (_ : px_ex px_tab (d + 3) 111 [Value.ref (28), Value.int (v)] (hp (M) (J) (R) (c) (e) nL xs (D)) = some (some (Value.null), (hp (M) (J) (R) (c) (e) nL xs (D)))) (_ : px_ex px_tab (d + 3) 167 [Value.ref (67), Value.int (v)] (hp (M) (J) (R) (c) (e) nL xs (D)) = some (some (Value.int (0)), (hp (M) (J) (R) (c) (e) nL xs (D)))), ∃ w D1 M2, px_ex px_tab (d + 4) 138 [Value.ref (13), Value.int (v), Value.int (u)] (hp (M) (J) (R) (c) (e) nL xs (D)) = some (some (Value.int (w)), (hp (M) (J) (R) (c) (e) nL xs (D1))) ∧ px_ex px_tab (d + 4) 194 [Value.ref (67), Value.int (v), Value.int (u)] (hp (M) (J) (R) (c) (e) nL xs (D1)) = some (some (Value.int (w)), (hp (M2) (J) (R) (c) (e) nL xs (D1))) ∧ IFd M2 R D1 ∧ frm [83] [] M M2 ∧ (∀ q V, dvAt D q V → dvAt D1 q V) ∧ grow D D1 := by
    intro h1 h2
    refine ⟨-2, D, M, ?_, ?_, ⟨n, P, H, hF⟩, frm.rf _ _ _, fun _ _ h => h, grow.rf _⟩
    · rw [xX11_take]
      simp only [px_bd_s, px_psh_s, px_psh_n, px_vb_s, px_ib_s, px_wb_s, px_bo_s, px_bo_n, Bool.cond_decide, cond_true, cond_false, ite_not, Bool.and_true, if_true, if_false, not_true_eq_false, not_false_eq_true, i10, eq_self, decide_true, decide_false, Bool.or_true, Bool.true_or, Bool.or_false, Bool.false_or, eX11_take_0, eX11_take_0_4, eX11_take_0_4_b, eX11_take_0_9, eX11_take_20, eX11_take_23, eX11_take_23_1, eX11_take_23_2, eX11_take_39, eX11_take_23_6, eX11_take_23_7, eX11_take_42, eX11_take_42_1, eX11_take_42_2, h1]
    · rw [xX12_take]
      simp [px_bd_s, px_psh_s, px_psh_n, px_vb_s, px_ib_s, px_wb_s, px_bo_s, px_bo_n, Bool.cond_decide, cond_true, cond_false, ite_not, Bool.and_true, if_true, if_false, not_true_eq_false, not_false_eq_true, i10, eq_self, decide_true, decide_false, Bool.or_true, Bool.true_or, Bool.or_false, Bool.false_or, eX12_take_0, eX12_take_0_3, eX12_take_15, eX12_take_0_6, eX12_take_18, eX12_take_46, eX12_take_18_14, eX12_take_49, h2]
  rcases pk_ix v (n := n) (by omega) with h | h | ⟨i, hi, rfl⟩
  · exact bad (c_findAt_n (d + 2) _ _ _ _ _ _ _ _ hF.2.1 v (Or.inl h)) ((m_isFind (d + 1) _ _ _ _ _ _ _ _ v).trans (by rw [hF.2.2.1, in_n (by omega) (Or.inl h)]))
  · exact bad (c_findAt_n (d + 2) _ _ _ _ _ _ _ _ hF.2.1 v (Or.inr h)) ((m_isFind (d + 1) _ _ _ _ _ _ _ _ v).trans (by rw [hF.2.2.1, in_n (by omega) (Or.inr h)]))
  obtain ⟨h1, h2, h3, h4⟩ := hF.2.2.2.2.1 i hi
  obtain ⟨k, hk, h0⟩ := h3.1
  have cf := c_findAt_y (d + 2) M J R c e nL xs D hn hF.2.1 i hi h1
  have mf : ∀ D', px_ex px_tab (d + 3) 167 [.ref 67, .int (nI i)] (hp M J R c e nL xs D') = some (some (.int 1), hp M J R c e nL xs D') := fun D' => (m_isFind (d + 1) _ _ _ _ _ _ _ _ _).trans (by rw [hF.2.2.1, in_y hi (by omega)])
  by_cases hu : 0 ≤ u ∧ u ≤ 999
  · have e7 : fdF (M 77) (M 78) (M 79) (M 80) (M 81) (M 83) (M 84) i 7 = if M 83 i < 0 then -1 else M 83 i := rfl
    have e8 : fdF (M 77) (M 78) (M 79) (M 80) (M 81) (M 83) (M 84) i 8 = if M 83 i < 0 then -1 else M 84 i := rfl
    by_cases ht : M 83 i < 0
    · refine ⟨-3, D, M, ?_, ?_, ⟨n, P, H, hF⟩, frm.rf _ _ _, fun _ _ h => h, grow.rf _⟩
      · rw [xX11_take]
        simp only [px_bd_s, px_psh_s, px_psh_n, px_vb_s, px_ib_s, px_wb_s, px_bo_s, px_bo_n, Bool.cond_decide, cond_true, cond_false, ite_not, Bool.and_true, if_true, if_false, not_true_eq_false, not_false_eq_true, i10, eq_self, decide_true, decide_false, Bool.or_true, Bool.true_or, Bool.or_false, Bool.false_or, eX11_take_0, eX11_take_0_4, eX11_take_0_4_b, eX11_take_0_9, eX11_take_20, eX11_take_23, eX11_take_23_1, eX11_take_23_2, eX11_take_39, eX11_take_23_6, eX11_take_23_7, eX11_take_42, eX11_take_42_1, eX11_take_42_2, cf, c_isDay, px_in_1 hu, fd_g7 h2, e7, if_pos ht]
        all_goals simp
      · rw [xX12_take]
        simp (disch := omega) only [px_bd_s, px_psh_s, px_psh_n, px_vb_s, px_ib_s, px_wb_s, px_bo_s, px_bo_n, Bool.cond_decide, cond_true, cond_false, ite_not, Bool.and_true, if_true, if_false, not_true_eq_false, not_false_eq_true, i10, eq_self, decide_true, decide_false, Bool.or_true, Bool.true_or, Bool.or_false, Bool.false_or, eX12_take_0, eX12_take_0_3, eX12_take_15, eX12_take_0_6, eX12_take_18, eX12_take_46, eX12_take_18_14, eX12_take_49, mf, m_isDay, px_in_1 hu, px_inbT, nI_clamp, if_pos ht]
        all_goals simp
    · have hne : ¬ M 83 i = -1 := fun q => ht (by rw [q]; decide)
      have cr := c_readyDay (d + 2) M J R c e nL xs D h2 hk h0
      rw [e7, if_neg ht, if_neg hne, e8, if_neg ht] at cr
      by_cases hr : M 84 i + 7 * px_WK k * M 80 i ≤ u
      · have f2 := fd_fr h2 (upd (upd (fdF (M 77) (M 78) (M 79) (M 80) (M 81) (M 83) (M 84) i) 7 (-1)) 8 (-1))
        have a2 := fdAt_set h2 (upd (upd (fdF (M 77) (M 78) (M 79) (M 80) (M 81) (M 83) (M 84) i) 7 (-1)) 8 (-1))
        refine ⟨1, D.set (P i) (fdc (P i) (upd (upd (fdF (M 77) (M 78) (M 79) (M 80) (M 81) (M 83) (M 84) i) 7 (-1)) 8 (-1))), px_uR M 83 (upd (M 83) i (-2)), ?_, ?_, ?_, ?_, f2.2.1, f2.2.2.g⟩
        · rw [xX11_take]
          simp only [px_bd_s, px_psh_s, px_psh_n, px_vb_s, px_ib_s, px_wb_s, px_bo_s, px_bo_n, Bool.cond_decide, cond_true, cond_false, ite_not, Bool.and_true, if_true, if_false, not_true_eq_false, not_false_eq_true, i10, eq_self, decide_true, decide_false, Bool.or_true, Bool.true_or, Bool.or_false, Bool.false_or, eX11_take_0, eX11_take_0_4, eX11_take_0_4_b, eX11_take_0_9, eX11_take_20, eX11_take_23, eX11_take_23_1, eX11_take_23_2, eX11_take_39, eX11_take_23_6, eX11_take_23_7, eX11_take_42, eX11_take_42_1, eX11_take_42_2, cf, c_isDay, px_in_1 hu, fd_g7 h2, e7, if_neg ht, if_neg hne, fd_isc h2, cr]
          rw [show fdF (M 77) (M 78) (M 79) (M 80) (M 81) (M 83) (M 84) i 3 = M 80 i from rfl]
          simp only [if_pos hr, c_goOut _ _ _ _ _ _ _ _ _ h2, px_bd_s, px_psh_s, px_psh_n, px_vb_s, px_ib_s, px_wb_s, px_bo_s, px_bo_n, Bool.cond_decide, cond_true, cond_false, ite_not, Bool.and_true, if_true, if_false, not_true_eq_false, not_false_eq_true, i10, eq_self, decide_true, decide_false, Bool.or_true, Bool.true_or, Bool.or_false, Bool.false_or, eX11_take_0, eX11_take_0_4, eX11_take_0_4_b, eX11_take_0_9, eX11_take_20, eX11_take_23, eX11_take_23_1, eX11_take_23_2, eX11_take_39, eX11_take_23_6, eX11_take_23_7, eX11_take_42, eX11_take_42_1, eX11_take_42_2]
          all_goals simp
        · rw [xX12_take]
          simp (disch := omega) only [px_bd_s, px_psh_s, px_psh_n, px_vb_s, px_ib_s, px_wb_s, px_bo_s, px_bo_n, Bool.cond_decide, cond_true, cond_false, ite_not, Bool.and_true, if_true, if_false, not_true_eq_false, not_false_eq_true, i10, eq_self, decide_true, decide_false, Bool.or_true, Bool.true_or, Bool.or_false, Bool.false_or, eX12_take_0, eX12_take_0_3, eX12_take_15, eX12_take_0_6, eX12_take_18, eX12_take_46, eX12_take_18_14, eX12_take_49, mf, m_isDay, px_in_1 hu, px_inbT, nI_clamp, if_neg ht, m_weeks _ _ _ _ _ _ _ _ _ (show i < 20 by omega) hk h0, ← Int32.mul_assoc, if_pos hr]
          all_goals simp
        · refine ⟨n, P, _, IFn_upd hF hi (Hi := H i) ?_ ?_ ?_ ?_ ?_ ?_⟩
          · exact fun j hj => ⟨rfl, pk_un hj, rfl⟩
          · exact fun j k hj hk => rfl
          · show fdAt _ _ (fdF (M 77) (M 78) (M 79) (M 80) (M 81) (upd (M 83) i (-2)) (M 84) i) _
            rw [← fdF_out _ _ _ _ _ _ _ _ ht]
            exact a2
          · exact f2.1
          · exact ⟨h3.1, h3.2.1, h3.2.2.1, h3.2.2.2.1, h3.2.2.2.2.1, Or.inr (Or.inl pk_us)⟩
          · exact h4
        · exact (frm.rf _ _ _).u 83 _ (by decide) (by decide)
      · refine ⟨-3, D, M, ?_, ?_, ⟨n, P, H, hF⟩, frm.rf _ _ _, fun _ _ h => h, grow.rf _⟩
        · rw [xX11_take]
          simp only [px_bd_s, px_psh_s, px_psh_n, px_vb_s, px_ib_s, px_wb_s, px_bo_s, px_bo_n, Bool.cond_decide, cond_true, cond_false, ite_not, Bool.and_true, if_true, if_false, not_true_eq_false, not_false_eq_true, i10, eq_self, decide_true, decide_false, Bool.or_true, Bool.true_or, Bool.or_false, Bool.false_or, eX11_take_0, eX11_take_0_4, eX11_take_0_4_b, eX11_take_0_9, eX11_take_20, eX11_take_23, eX11_take_23_1, eX11_take_23_2, eX11_take_39, eX11_take_23_6, eX11_take_23_7, eX11_take_42, eX11_take_42_1, eX11_take_42_2, cf, c_isDay, px_in_1 hu, fd_g7 h2, e7, if_neg ht, if_neg hne, fd_isc h2, cr]
          rw [show fdF (M 77) (M 78) (M 79) (M 80) (M 81) (M 83) (M 84) i 3 = M 80 i from rfl]
          simp only [if_neg hr]
          all_goals simp
        · rw [xX12_take]
          simp (disch := omega) only [px_bd_s, px_psh_s, px_psh_n, px_vb_s, px_ib_s, px_wb_s, px_bo_s, px_bo_n, Bool.cond_decide, cond_true, cond_false, ite_not, Bool.and_true, if_true, if_false, not_true_eq_false, not_false_eq_true, i10, eq_self, decide_true, decide_false, Bool.or_true, Bool.true_or, Bool.or_false, Bool.false_or, eX12_take_0, eX12_take_0_3, eX12_take_15, eX12_take_0_6, eX12_take_18, eX12_take_46, eX12_take_18_14, eX12_take_49, mf, m_isDay, px_in_1 hu, px_inbT, nI_clamp, if_neg ht, m_weeks _ _ _ _ _ _ _ _ _ (show i < 20 by omega) hk h0, ← Int32.mul_assoc, if_neg hr]
          all_goals simp
  · refine ⟨-2, D, M, ?_, ?_, ⟨n, P, H, hF⟩, frm.rf _ _ _, fun _ _ h => h, grow.rf _⟩
    · rw [xX11_take]
      simp only [px_bd_s, px_psh_s, px_psh_n, px_vb_s, px_ib_s, px_wb_s, px_bo_s, px_bo_n, Bool.cond_decide, cond_true, cond_false, ite_not, Bool.and_true, if_true, if_false, not_true_eq_false, not_false_eq_true, i10, eq_self, decide_true, decide_false, Bool.or_true, Bool.true_or, Bool.or_false, Bool.false_or, eX11_take_0, eX11_take_0_4, eX11_take_0_4_b, eX11_take_0_9, eX11_take_20, eX11_take_23, eX11_take_23_1, eX11_take_23_2, eX11_take_39, eX11_take_23_6, eX11_take_23_7, eX11_take_42, eX11_take_42_1, eX11_take_42_2, cf, c_isDay, px_in_00 hu]
      all_goals simp
    · rw [xX12_take]
      simp only [px_bd_s, px_psh_s, px_psh_n, px_vb_s, px_ib_s, px_wb_s, px_bo_s, px_bo_n, Bool.cond_decide, cond_true, cond_false, ite_not, Bool.and_true, if_true, if_false, not_true_eq_false, not_false_eq_true, i10, eq_self, decide_true, decide_false, Bool.or_true, Bool.true_or, Bool.or_false, Bool.false_or, eX12_take_0, eX12_take_0_3, eX12_take_15, eX12_take_0_6, eX12_take_18, eX12_take_46, eX12_take_18_14, eX12_take_49, mf, m_isDay, px_in_00 hu]
      all_goals simp
end S27b
