/-! PART 58: COUNT, all but the tapes that are out (12) -/
section S58
variable (d : Nat) (M : Nat → Nat → Int32) (J : Nat → Nat → Int64) (R : Nat → Nat → Option Nat) (nL : Nat) (xs : Nat → Int32) (D : px_H)
theorem m_cnt_l (c e : Nat) {n : Nat} (hn : n ≤ 20) (h67 : M 67 13 = nI n) : ∀ (g k : Nat) (a : Int32) (o : Option Value), k + g = n → px_run (px_mk (kX12_count (px_ex px_tab d))) 125 ([some (Value.ref (67)), o, some (Value.int (a)), some (Value.int (nI k))], [], (hp (M) (J) (R) (c) (e) nL xs (D))) = some (some (Value.int (ac (fun k => if M 83 k = -1 then 1 else 0) g k a)), (hp (M) (J) (R) (c) (e) nL xs (D)))
  | 0, k, a, o, hk => by
    rw [eX12_count_125]
    simp (disch := omega) only [px_bd_s, px_psh_s, px_psh_n, px_vb_s, px_ib_s, px_wb_s, px_bo_s, px_bo_n, Bool.cond_decide, cond_true, cond_false, ite_not, Bool.and_true, if_true, if_false, not_true_eq_false, not_false_eq_true, i10, eq_self, decide_true, decide_false, Bool.or_true, Bool.true_or, Bool.or_false, Bool.false_or, za0, zb0, zc0, zd0, ze0, zf0, za1, zb1, zc1, zd1, ze1, zf1, za2, zb2, zc2, zd2, ze2, zf2, za3, zb3, zc3, zd3, ze3, zf3, za4, zb4, zc4, zd4, ze4, zf4, za5, zb5, zc5, zd5, ze5, zf5, za6, zb6, zc6, zd6, ze6, zf6, za7, zb7, zc7, zd7, ze7, zf7, za8, zb8, zc8, zd8, ze8, zf8, za9, zb9, zc9, zd9, ze9, zf9, za10, zb10, zc10, zd10, ze10, zf10, za20, zb20, zc20, zd20, ze20, zf20, za24, zb24, zc24, zd24, ze24, zf24, za39, zb39, zc39, zd39, ze39, zf39, za40, zb40, zc40, zd40, ze40, zf40, za50, zb50, zc50, zd50, ze50, zf50, za51, zb51, zc51, zd51, ze51, zf51, za60, zb60, zc60, zd60, ze60, zf60, za90, zb90, zc90, zd90, ze90, zf90, za99, zb99, zc99, zd99, ze99, zf99, za100, zb100, zc100, zd100, ze100, zf100, za101, zb101, zc101, zd101, ze101, zf101, za120, zb120, zc120, zd120, ze120, zf120, za160, zb160, zc160, zd160, ze160, zf160, za200, zb200, zc200, zd200, ze200, zf200, za400, zb400, zc400, zd400, ze400, zf400, za999, zb999, zc999, zd999, ze999, zf999, za1000, zb1000, zc1000, zd1000, ze1000, zf1000, za1440, zb1440, zc1440, zd1440, ze1440, zf1440, zp1, zp2, zp3, zp8, zp40, zq8, zq10, zq40, nI_leI, nI_ltI, nI_eq, px_inbT, nI_clamp, nI_add, pk_m1, if_pos, if_neg, h67, eX12_count_157]
    rfl
  | g + 1, k, a, o, hk => by
    rw [eX12_count_125, ac_s]
    by_cases h : M 83 k = -1
    · simp (disch := omega) only [px_bd_s, px_psh_s, px_psh_n, px_vb_s, px_ib_s, px_wb_s, px_bo_s, px_bo_n, Bool.cond_decide, cond_true, cond_false, ite_not, Bool.and_true, if_true, if_false, not_true_eq_false, not_false_eq_true, i10, eq_self, decide_true, decide_false, Bool.or_true, Bool.true_or, Bool.or_false, Bool.false_or, za0, zb0, zc0, zd0, ze0, zf0, za1, zb1, zc1, zd1, ze1, zf1, za2, zb2, zc2, zd2, ze2, zf2, za3, zb3, zc3, zd3, ze3, zf3, za4, zb4, zc4, zd4, ze4, zf4, za5, zb5, zc5, zd5, ze5, zf5, za6, zb6, zc6, zd6, ze6, zf6, za7, zb7, zc7, zd7, ze7, zf7, za8, zb8, zc8, zd8, ze8, zf8, za9, zb9, zc9, zd9, ze9, zf9, za10, zb10, zc10, zd10, ze10, zf10, za20, zb20, zc20, zd20, ze20, zf20, za24, zb24, zc24, zd24, ze24, zf24, za39, zb39, zc39, zd39, ze39, zf39, za40, zb40, zc40, zd40, ze40, zf40, za50, zb50, zc50, zd50, ze50, zf50, za51, zb51, zc51, zd51, ze51, zf51, za60, zb60, zc60, zd60, ze60, zf60, za90, zb90, zc90, zd90, ze90, zf90, za99, zb99, zc99, zd99, ze99, zf99, za100, zb100, zc100, zd100, ze100, zf100, za101, zb101, zc101, zd101, ze101, zf101, za120, zb120, zc120, zd120, ze120, zf120, za160, zb160, zc160, zd160, ze160, zf160, za200, zb200, zc200, zd200, ze200, zf200, za400, zb400, zc400, zd400, ze400, zf400, za999, zb999, zc999, zd999, ze999, zf999, za1000, zb1000, zc1000, zd1000, ze1000, zf1000, za1440, zb1440, zc1440, zd1440, ze1440, zf1440, zp1, zp2, zp3, zp8, zp40, zq8, zq10, zq40, nI_leI, nI_ltI, nI_eq, px_inbT, nI_clamp, nI_add, pk_m1, if_pos, if_neg, h67, h, eX12_count_198, eX12_count_159, eX12_count_123, eX12_count_118, eX12_count_113, eX12_count_108, eX12_count_103, eX12_count_98, eX12_count_93, eX12_count_88, eX12_count_83, eX12_count_78, eX12_count_73, eX12_count_68, eX12_count_159_2, eX12_count_165, eX12_count_157, eX12_count_148, eX12_count_149, eX12_count_196, eX12_count_187, eX12_count_188, m_cnt_l c e hn h67 g]
    · simp (disch := omega) only [px_bd_s, px_psh_s, px_psh_n, px_vb_s, px_ib_s, px_wb_s, px_bo_s, px_bo_n, Bool.cond_decide, cond_true, cond_false, ite_not, Bool.and_true, if_true, if_false, not_true_eq_false, not_false_eq_true, i10, eq_self, decide_true, decide_false, Bool.or_true, Bool.true_or, Bool.or_false, Bool.false_or, za0, zb0, zc0, zd0, ze0, zf0, za1, zb1, zc1, zd1, ze1, zf1, za2, zb2, zc2, zd2, ze2, zf2, za3, zb3, zc3, zd3, ze3, zf3, za4, zb4, zc4, zd4, ze4, zf4, za5, zb5, zc5, zd5, ze5, zf5, za6, zb6, zc6, zd6, ze6, zf6, za7, zb7, zc7, zd7, ze7, zf7, za8, zb8, zc8, zd8, ze8, zf8, za9, zb9, zc9, zd9, ze9, zf9, za10, zb10, zc10, zd10, ze10, zf10, za20, zb20, zc20, zd20, ze20, zf20, za24, zb24, zc24, zd24, ze24, zf24, za39, zb39, zc39, zd39, ze39, zf39, za40, zb40, zc40, zd40, ze40, zf40, za50, zb50, zc50, zd50, ze50, zf50, za51, zb51, zc51, zd51, ze51, zf51, za60, zb60, zc60, zd60, ze60, zf60, za90, zb90, zc90, zd90, ze90, zf90, za99, zb99, zc99, zd99, ze99, zf99, za100, zb100, zc100, zd100, ze100, zf100, za101, zb101, zc101, zd101, ze101, zf101, za120, zb120, zc120, zd120, ze120, zf120, za160, zb160, zc160, zd160, ze160, zf160, za200, zb200, zc200, zd200, ze200, zf200, za400, zb400, zc400, zd400, ze400, zf400, za999, zb999, zc999, zd999, ze999, zf999, za1000, zb1000, zc1000, zd1000, ze1000, zf1000, za1440, zb1440, zc1440, zd1440, ze1440, zf1440, zp1, zp2, zp3, zp8, zp40, zq8, zq10, zq40, nI_leI, nI_ltI, nI_eq, px_inbT, nI_clamp, nI_add, pk_m1, if_pos, if_neg, h67, h, eX12_count_198, eX12_count_159, eX12_count_123, eX12_count_118, eX12_count_113, eX12_count_108, eX12_count_103, eX12_count_98, eX12_count_93, eX12_count_88, eX12_count_83, eX12_count_78, eX12_count_73, eX12_count_68, eX12_count_159_2, eX12_count_165, eX12_count_157, eX12_count_148, eX12_count_149, eX12_count_196, eX12_count_187, eX12_count_188, m_cnt_l c e hn h67 g]
theorem t_count_38 (hS : ISv M) (hF : IFd M R D) (hT : ITk M) (hD : IDr M) (hW : IRw M) (hV : IDv M R D) (hX : ITx M) (hL : IRl M 38 43) (hP : IPl M J) (v : Int32) (h12 : v ≠ 12) : ∃ w, px_ex px_tab (d + 3) 159 [Value.ref (13), Value.int (v)] (hp (M) (J) (R) (38) (43) nL xs (D)) = some (some (Value.int (w)), (hp (M) (J) (R) (38) (43) nL xs (D))) ∧ px_ex px_tab (d + 3) 250 [Value.ref (67), Value.int (v)] (hp (M) (J) (R) (38) (43) nL xs (D)) = some (some (Value.int (w)), (hp (M) (J) (R) (38) (43) nL xs (D))) := by
  rw [xX11_count, xX12_count, eX11_count_38_0, eX12_count_0]
  simp only [Bool.cond_decide]
  by_cases h0 : v = 0
  · obtain ⟨s, b, r, h1, h2, h3⟩ := hS
    refine ⟨nI (Sm s), ?_, ?_⟩
    · simp only [h0, if_true, eX11_count_38_68, h1.2.2.2.2.1]
    · simp only [h0, if_true, eX12_count_68, h1.2.2.2.2.2.1]
  rw [if_neg h0, if_neg h0]
  by_cases h0 : v = 1
  · obtain ⟨s, b, r, h1, h2, h3⟩ := hS
    refine ⟨nI (St s), ?_, ?_⟩
    · simp only [h0, if_true, eX11_count_38_76, h1.2.2.2.2.2.2.1]
    · simp only [h0, if_true, eX12_count_73, h1.2.2.2.2.2.2.2.1]
  rw [if_neg h0, if_neg h0]
  by_cases h0 : v = 2
  · obtain ⟨n, P, H, h1⟩ := hF
    refine ⟨nI n, ?_, ?_⟩
    · simp only [h0, if_true, eX11_count_38_84, h1.2.1]
    · simp only [h0, if_true, eX12_count_78, h1.2.2.1]
  rw [if_neg h0, if_neg h0]
  by_cases h0 : v = 3
  · obtain ⟨n, _, h1, h2, _⟩ := hT
    refine ⟨nI n, ?_, ?_⟩
    · simp only [h0, if_true, eX11_count_38_92, h1]
    · simp only [h0, if_true, eX12_count_83, h2]
  rw [if_neg h0, if_neg h0]
  by_cases h0 : v = 4
  · obtain ⟨n, _, h1, h2⟩ := hD
    refine ⟨nI n, ?_, ?_⟩
    · simp only [h0, if_true, eX11_count_38_100, h1]
    · simp only [h0, if_true, eX12_count_88, h2]
  rw [if_neg h0, if_neg h0]
  by_cases h0 : v = 5
  · obtain ⟨n, _, h1, h2, _⟩ := hW
    refine ⟨nI n, ?_, ?_⟩
    · simp only [h0, if_true, eX11_count_38_108, h1]
    · simp only [h0, if_true, eX12_count_93, h2]
  rw [if_neg h0, if_neg h0]
  by_cases h0 : v = 6
  · obtain ⟨n, Q, h1⟩ := hV
    refine ⟨nI n, ?_, ?_⟩
    · simp only [h0, if_true, eX11_count_38_116, h1.2.1]
    · simp only [h0, if_true, eX12_count_98, h1.2.2.1]
  rw [if_neg h0, if_neg h0]
  by_cases h0 : v = 7
  · obtain ⟨n, _, h1, h2, _⟩ := hX
    refine ⟨nI n, ?_, ?_⟩
    · simp only [h0, if_true, eX11_count_38_124, h1]
    · simp only [h0, if_true, eX12_count_103, h2]
  rw [if_neg h0, if_neg h0]
  by_cases h0 : v = 8
  · rcases hL with ⟨q1, q2, nb, pt, h1⟩ | ⟨q1, q2, nb, pt, h1⟩
    · first
        | (exfalso; revert q1; decide)
        | (refine ⟨nI nb, ?_, ?_⟩
           · simp only [h0, if_true, eX11_count_38_132, h1.2.1]
           · simp only [h0, if_true, eX12_count_108, h1.2.2.1])
    · first
        | (exfalso; revert q1; decide)
        | (refine ⟨nI nb, ?_, ?_⟩
           · simp only [h0, if_true, eX11_count_38_132, h1.2.1]
           · simp only [h0, if_true, eX12_count_108, h1.2.2.1])
  rw [if_neg h0, if_neg h0]
  by_cases h0 : v = 9
  · obtain ⟨n, ng, mn, wo, cap, h1, h2, h3, h4, h5⟩ := hP
    refine ⟨nI n, ?_, ?_⟩
    · simp only [h0, if_true, eX11_count_38_143, h2]
    · simp only [h0, if_true, eX12_count_113, h4.1]
  rw [if_neg h0, if_neg h0]
  by_cases h0 : v = 10
  · obtain ⟨n, ng, mn, wo, cap, h1, h2, h3, h4, h5⟩ := hP
    refine ⟨nI ng, ?_, ?_⟩
    · simp only [h0, if_true, eX11_count_38_151, h3]
    · simp only [h0, if_true, eX12_count_118, h4.2.1]
  rw [if_neg h0, if_neg h0]
  by_cases h0 : v = 11
  · obtain ⟨n, P, H, h1⟩ := hF
    refine ⟨ac (fun k => if M 83 k = -1 then 1 else 0) n 0 0, ?_, ?_⟩
    · simp only [h0, if_true, eX11_count_38_159, c_inField _ _ _ _ _ _ _ _ _ h1, px_bd_s, px_psh_s, px_psh_n, px_vb_s, px_ib_s, px_wb_s, px_bo_s, px_bo_n, Bool.cond_decide, cond_true, cond_false, ite_not, Bool.and_true, if_true, if_false, not_true_eq_false, not_false_eq_true, i10, eq_self, decide_true, decide_false, Bool.or_true, Bool.true_or, Bool.or_false, Bool.false_or, eX11_count_38_159_3]
    · rw [if_pos h0, eX12_count_123]
      exact m_cnt_l (d + 2) M J R nL xs D 38 43 h1.1 h1.2.2.1 n 0 0 _ (by omega)
  rw [if_neg h0, if_neg h0, if_neg h12, if_neg h12]
  exact ⟨-2, by rw [eX11_count_38_175], by rw [eX12_count_198]⟩
theorem t_count_43 (hS : ISv M) (hF : IFd M R D) (hT : ITk M) (hD : IDr M) (hW : IRw M) (hV : IDv M R D) (hX : ITx M) (hL : IRl M 43 38) (hP : IPl M J) (v : Int32) (h12 : v ≠ 12) : ∃ w, px_ex px_tab (d + 3) 159 [Value.ref (13), Value.int (v)] (hp (M) (J) (R) (43) (38) nL xs (D)) = some (some (Value.int (w)), (hp (M) (J) (R) (43) (38) nL xs (D))) ∧ px_ex px_tab (d + 3) 250 [Value.ref (67), Value.int (v)] (hp (M) (J) (R) (43) (38) nL xs (D)) = some (some (Value.int (w)), (hp (M) (J) (R) (43) (38) nL xs (D))) := by
  rw [xX11_count, xX12_count, eX11_count_43_0, eX12_count_0]
  simp only [Bool.cond_decide]
  by_cases h0 : v = 0
  · obtain ⟨s, b, r, h1, h2, h3⟩ := hS
    refine ⟨nI (Sm s), ?_, ?_⟩
    · simp only [h0, if_true, eX11_count_43_68, h1.2.2.2.2.1]
    · simp only [h0, if_true, eX12_count_68, h1.2.2.2.2.2.1]
  rw [if_neg h0, if_neg h0]
  by_cases h0 : v = 1
  · obtain ⟨s, b, r, h1, h2, h3⟩ := hS
    refine ⟨nI (St s), ?_, ?_⟩
    · simp only [h0, if_true, eX11_count_43_76, h1.2.2.2.2.2.2.1]
    · simp only [h0, if_true, eX12_count_73, h1.2.2.2.2.2.2.2.1]
  rw [if_neg h0, if_neg h0]
  by_cases h0 : v = 2
  · obtain ⟨n, P, H, h1⟩ := hF
    refine ⟨nI n, ?_, ?_⟩
    · simp only [h0, if_true, eX11_count_43_84, h1.2.1]
    · simp only [h0, if_true, eX12_count_78, h1.2.2.1]
  rw [if_neg h0, if_neg h0]
  by_cases h0 : v = 3
  · obtain ⟨n, _, h1, h2, _⟩ := hT
    refine ⟨nI n, ?_, ?_⟩
    · simp only [h0, if_true, eX11_count_43_92, h1]
    · simp only [h0, if_true, eX12_count_83, h2]
  rw [if_neg h0, if_neg h0]
  by_cases h0 : v = 4
  · obtain ⟨n, _, h1, h2⟩ := hD
    refine ⟨nI n, ?_, ?_⟩
    · simp only [h0, if_true, eX11_count_43_100, h1]
    · simp only [h0, if_true, eX12_count_88, h2]
  rw [if_neg h0, if_neg h0]
  by_cases h0 : v = 5
  · obtain ⟨n, _, h1, h2, _⟩ := hW
    refine ⟨nI n, ?_, ?_⟩
    · simp only [h0, if_true, eX11_count_43_108, h1]
    · simp only [h0, if_true, eX12_count_93, h2]
  rw [if_neg h0, if_neg h0]
  by_cases h0 : v = 6
  · obtain ⟨n, Q, h1⟩ := hV
    refine ⟨nI n, ?_, ?_⟩
    · simp only [h0, if_true, eX11_count_43_116, h1.2.1]
    · simp only [h0, if_true, eX12_count_98, h1.2.2.1]
  rw [if_neg h0, if_neg h0]
  by_cases h0 : v = 7
  · obtain ⟨n, _, h1, h2, _⟩ := hX
    refine ⟨nI n, ?_, ?_⟩
    · simp only [h0, if_true, eX11_count_43_124, h1]
    · simp only [h0, if_true, eX12_count_103, h2]
  rw [if_neg h0, if_neg h0]
  by_cases h0 : v = 8
  · rcases hL with ⟨q1, q2, nb, pt, h1⟩ | ⟨q1, q2, nb, pt, h1⟩
    · first
        | (exfalso; revert q1; decide)
        | (refine ⟨nI nb, ?_, ?_⟩
           · simp only [h0, if_true, eX11_count_43_132, h1.2.1]
           · simp only [h0, if_true, eX12_count_108, h1.2.2.1])
    · first
        | (exfalso; revert q1; decide)
        | (refine ⟨nI nb, ?_, ?_⟩
           · simp only [h0, if_true, eX11_count_43_132, h1.2.1]
           · simp only [h0, if_true, eX12_count_108, h1.2.2.1])
  rw [if_neg h0, if_neg h0]
  by_cases h0 : v = 9
  · obtain ⟨n, ng, mn, wo, cap, h1, h2, h3, h4, h5⟩ := hP
    refine ⟨nI n, ?_, ?_⟩
    · simp only [h0, if_true, eX11_count_43_143, h2]
    · simp only [h0, if_true, eX12_count_113, h4.1]
  rw [if_neg h0, if_neg h0]
  by_cases h0 : v = 10
  · obtain ⟨n, ng, mn, wo, cap, h1, h2, h3, h4, h5⟩ := hP
    refine ⟨nI ng, ?_, ?_⟩
    · simp only [h0, if_true, eX11_count_43_151, h3]
    · simp only [h0, if_true, eX12_count_118, h4.2.1]
  rw [if_neg h0, if_neg h0]
  by_cases h0 : v = 11
  · obtain ⟨n, P, H, h1⟩ := hF
    refine ⟨ac (fun k => if M 83 k = -1 then 1 else 0) n 0 0, ?_, ?_⟩
    · simp only [h0, if_true, eX11_count_43_159, c_inField _ _ _ _ _ _ _ _ _ h1, px_bd_s, px_psh_s, px_psh_n, px_vb_s, px_ib_s, px_wb_s, px_bo_s, px_bo_n, Bool.cond_decide, cond_true, cond_false, ite_not, Bool.and_true, if_true, if_false, not_true_eq_false, not_false_eq_true, i10, eq_self, decide_true, decide_false, Bool.or_true, Bool.true_or, Bool.or_false, Bool.false_or, eX11_count_43_159_3]
    · rw [if_pos h0, eX12_count_123]
      exact m_cnt_l (d + 2) M J R nL xs D 43 38 h1.1 h1.2.2.1 n 0 0 _ (by omega)
  rw [if_neg h0, if_neg h0, if_neg h12, if_neg h12]
  exact ⟨-2, by rw [eX11_count_43_175], by rw [eX12_count_198]⟩
end S58
