/-! PART 10c: what is left of soundness: a lookup switch, texts -/
section S10c
variable {d : Nat} {X : px_X} {Y : px_Y} {pc : Nat}
theorem px_lsw_ok {pc dd : Nat} {dflt : Int} : ∀ {ps : List (Int × Int)} {l : List (Int32 × Nat)}, (decide ((pc : Int) + dflt = (dd : Int)) && decide (ps.length = l.length) && (List.zip ps l).all fun q => decide (q.1.1 = q.2.1.toInt) && decide ((pc : Int) + q.1.2 = (q.2.2 : Int))) = true → ∀ x : Int32, (pc : Int) + Op.lookupswitch.offset ps dflt x.toInt = (px_swt x dd l : Int)
  | [], [], h, x => by
    simp only [Bool.and_eq_true, decide_eq_true_eq] at h
    exact h.1.1
  | [], _ :: _, h, x => by simp at h
  | _ :: _, [], h, x => by simp at h
  | (a, o) :: ps, (v, t) :: l, h, x => by
    simp only [Bool.and_eq_true, decide_eq_true_eq, List.zip_cons_cons, List.all_cons, List.length_cons] at h
    obtain ⟨⟨h1, h2⟩, ⟨h3, h4⟩, h5⟩ := h
    have ih := px_lsw_ok (ps := ps) (l := l) (by simp only [Bool.and_eq_true, decide_eq_true_eq]; exact ⟨⟨h1, by omega⟩, h5⟩) x
    rw [Op.lookupswitch.offset_cons]
    by_cases e : x = v
    · subst e
      rw [if_pos h3]
      unfold px_swt
      simp only [decide_true, cond_true]
      exact h4
    · rw [if_neg (fun q => e (Int32.toInt_inj.mp (by rw [← q, h3])))]
      unfold px_swt
      simp only [e, decide_false, cond_false]
      exact ih
-- texts
def jx_Pc (V : px_V) (as : List Value) : Array Value → State → Prop := fun v U => v = as.toArray ∧ px_wk V U U.heap
def jx_Qc (r : Option Value) : Array Value → State → Outcome → State → Prop := fun _ st oc t => oc = .returned r ∧ t.heap = st.heap
abbrev jx_rm (k : Nat) : Room := { frames := k, cells := 0, slots := 0, locals := 40 * k }
def jx_Met (l : Launch) (Y : px_Y) (V : px_V) (as : List Value) (r : Option Value) (k : Nat) : Prop := Met l Y.1 (Cond.code Y.1 Y.2.1 Y.2.2.1 Y.2.2.2 :: px_good) (jx_rm k) (jx_Pc V as) (jx_Qc r) 0 0 (fun _ => False)
theorem jx_of {l : Launch} {V : px_V} {as : List Value} {r : Option Value} {k : Nat} (hp : plainName Y.1.cls = true) (has : (lg_sl as).length ≤ Y.2.2.1)
    (body : ∀ (p : Program) (e : Env) (s : State) (m : MethodId) (below : List Frame) (meth : Method) (c : Code) (ls : Array Slot), p.tables.exec = Jvm.exec → c.code = Y.2.1 → c.maxLocals = Y.2.2.1 → s.vm.findClass Y.1.cls = some m.cls → (∀ w ∈ px_good, w.before as.toArray s = true) → meth.sig.returnType = Y.2.2.2 → meth.locks = false → px_wk V s s.heap → lv_has ls Y.2.2.1 (lv_args 0 as) →
      W p l e (jx_rm k) s m as.toArray below meth c s.heap [] 0 0 (MQ below (jx_Qc r) as.toArray s 0 0 (fun _ => False)) (F0 m 0 ls [])) : jx_Met l Y V as r k := by
  refine Met.ofW (cc := Y.2.1) (maxL := Y.2.2.1) (ret := Y.2.2.2) hp rfl ?_
  intro p e s m args below meth c s₁ B hml hv
  obtain ⟨rfl, hwk⟩ := hv
  have hts := atoms_spec (ws := Cond.code Y.1 Y.2.1 Y.2.2.1 Y.2.2.2 :: px_good) B.pre
  rw [lg_entry_eq]
  exact body p e s m below meth c _ B.exec B.bytes hml (findClass_of_methodNamed B.named) (fun w hw => hts w (List.mem_cons_of_mem _ hw)) B.returns B.notSynchronized hwk (lv_entry as has)
theorem jx_blind (V : px_V) (as : List Value) : FrameBlind (jx_Pc V as) := fun a U g mk h => ⟨h.1, px_wk.same rfl h.2⟩
theorem jx_go {p : Program} {l : Launch} {e : Env} {R : Room} {s : State} {m : MethodId} {args : Array Value} {below : List Frame} {meth : Method} {c : Code} {H : Heap} {locs : List Loc} {cells slots : Nat} {Q : State → Prop} {g : JFrame} {rest : List Value} {a : Array Value} {r : Option Value}
    (hr : va_Run p l e R s m args below meth c H locs cells slots 0 0 g rest (jx_Qc r a) (fun _ => False)) (k : W p l e R s m args below meth c H locs cells slots Q { g with pc := g.pc + 3, stack := r.toList ++ rest }) : W p l e R s m args below meth c H locs cells slots Q g := by
  intro T hT Xs
  obtain ⟨v, st₀, t, T', L, k0, X', kL, k1, k2, ⟨k3, k4⟩, kst⟩ := hr T hT Xs
  cases k3
  have eL : L = [] := by
    cases L with
    | nil => rfl
    | cons q L => exact (kL q List.mem_cons_self).elim
  subst eL
  rw [List.append_nil] at X'
  obtain ⟨t2, a1, b1⟩ := k T' (by rw [k1, k4, k0]) X'
  exact ⟨t2, kst t2 a1, b1⟩
abbrev YJ_coder : px_Y := (yJ0_coder_7d493, cJ0_coder_7d493, 1, some .byte)
abbrev YJ_lat : px_Y := (yJ0_isLatin1_aae02, cJ0_isLatin1_aae02, 1, some .boolean)
abbrev YJ_len : px_Y := (yJ0_length_8abf5, cJ0_length_8abf5, 1, some .int)
abbrev YJ_chr : px_Y := (yJ0_charAt_5068e, cJ0_charAt_5068e, 2, some .char)
abbrev YJ_l1 : px_Y := (yJ1_charAt_3b067, cJ1_charAt_3b067, 2, some .char)
abbrev YJ_ck : px_Y := (yJ0_checkIndex_df160, cJ0_checkIndex_df160, 2, none)
abbrev YJ_pc : px_Y := (yJ3_checkIndex_8e157, cJ3_checkIndex_8e157, 3, some .int)
theorem jx_coder (l : Launch) (V : px_V) {i : Nat} (hi : i < 10) : jx_Met l YJ_coder V [.ref (V.2.1 (3 + i))] (some (.int 0)) 0 := by
  refine jx_of (by decide) (Nat.le_of_ble_eq_true rfl) ?_
  intro p e s m below meth c ls hx hb hml hown hts hr hlk hwk hl
  have hl : lv_has ls 1 [(0, .ref (V.2.1 (3 + i)))] := hl
  refine va_gets hx hb hwk.2.2.2.2.2.2.2.2.1 va_S.rf hown (hts _ jw_compact) (fun _ h => h) (show decode cJ0_coder_7d493 0 = .ok (.getstatic 38, 3) by decide +kernel) ?_
  refine lv_if_eq (tgt := 13) hx hb (show decode cJ0_coder_7d493 3 = .ok (.ifCond .eq 10, 3) by decide +kernel) (by decide) (fun q => absurd q (by decide)) (fun _ => ?_)
  refine lv_aload_n hx hb (show decode cJ0_coder_7d493 6 = .ok (.aload_n 0, 1) by decide +kernel) rfl (lv_at hl 0 rfl) ?_
  refine vk_getf hx hb (hwk.2.2.2.2.2.2.2.1.1 i hi).2.1 va_S.rf hown (hts _ jw_coderf) (fun _ h => h) (show decode cJ0_coder_7d493 7 = .ok (.getfield 15, 3) by decide +kernel) ?_
  refine lv_goto (tgt := 14) hx hb (show decode cJ0_coder_7d493 10 = .ok (.goto 4, 3) by decide +kernel) (by decide) ?_
  exact W.zret hx hb hr rfl (fun t ht _ => ⟨rfl, ht⟩) (fun q hq => by cases hq) (show decode cJ0_coder_7d493 14 = .ok (.ireturn, 1) by decide +kernel) hlk
theorem jx_lat (l : Launch) (V : px_V) {i : Nat} (hi : i < 10) : jx_Met l YJ_lat V [.ref (V.2.1 (3 + i))] (some (.int 1)) 0 := by
  refine jx_of (by decide) (Nat.le_of_ble_eq_true rfl) ?_
  intro p e s m below meth c ls hx hb hml hown hts hr hlk hwk hl
  have hl : lv_has ls 1 [(0, .ref (V.2.1 (3 + i)))] := hl
  refine va_gets hx hb hwk.2.2.2.2.2.2.2.2.1 va_S.rf hown (hts _ jw_compact) (fun _ h => h) (show decode cJ0_isLatin1_aae02 0 = .ok (.getstatic 38, 3) by decide +kernel) ?_
  refine lv_if_eq (tgt := 17) hx hb (show decode cJ0_isLatin1_aae02 3 = .ok (.ifCond .eq 14, 3) by decide +kernel) (by decide) (fun q => absurd q (by decide)) (fun _ => ?_)
  refine lv_aload_n hx hb (show decode cJ0_isLatin1_aae02 6 = .ok (.aload_n 0, 1) by decide +kernel) rfl (lv_at hl 0 rfl) ?_
  refine vk_getf hx hb (hwk.2.2.2.2.2.2.2.1.1 i hi).2.1 va_S.rf hown (hts _ jw_coderf) (fun _ h => h) (show decode cJ0_isLatin1_aae02 7 = .ok (.getfield 15, 3) by decide +kernel) ?_
  refine lv_if_ne (tgt := 17) hx hb (show decode cJ0_isLatin1_aae02 10 = .ok (.ifCond .ne 7, 3) by decide +kernel) (by decide) (fun q => absurd rfl q) (fun _ => ?_)
  refine lv_iconst (v := 1) hx hb (show decode cJ0_isLatin1_aae02 13 = .ok (.iconst 1, 1) by decide +kernel) (by decide) ?_
  refine lv_goto (tgt := 18) hx hb (show decode cJ0_isLatin1_aae02 14 = .ok (.goto 4, 3) by decide +kernel) (by decide) ?_
  exact W.zret hx hb hr rfl (fun t ht _ => ⟨rfl, ht⟩) (fun q hq => by cases hq) (show decode cJ0_isLatin1_aae02 18 = .ok (.ireturn, 1) by decide +kernel) hlk
theorem jx_shr : ∀ i : Nat, i < 10 → (Int32.ofNat (px_len.getD i 0)) >>> ((0 : Int32) &&& 31) = Int32.ofNat (px_len.getD i 0) := by decide
theorem jx_len (l : Launch) (V : px_V) {i : Nat} (hi : i < 10) : jx_Met l YJ_len V [.ref (V.2.1 (3 + i))] (some (.int (Int32.ofNat (px_len.getD i 0)))) 1 := by
  refine jx_of (by decide) (Nat.le_of_ble_eq_true rfl) ?_
  intro p e s m below meth c ls hx hb hml hown hts hr hlk hwk hl
  have hl : lv_has ls 1 [(0, .ref (V.2.1 (3 + i)))] := hl
  have hstr := hwk.2.2.2.2.2.2.2.1
  refine lv_aload_n hx hb (show decode cJ0_length_8abf5 0 = .ok (.aload_n 0, 1) by decide +kernel) rfl (lv_at hl 0 rfl) ?_
  refine vk_getf hx hb (hstr.1 i hi).2.2.1 va_S.rf hown (hts _ jw_value) (fun _ h => h) (show decode cJ0_length_8abf5 1 = .ok (.getfield 9, 3) by decide +kernel) ?_
  refine va_tlen hx hb (hstr.1 i hi).2.2.2 va_S.rf rfl (show decode cJ0_length_8abf5 4 = .ok (.arraylength, 1) by decide +kernel) ?_
  refine lv_aload_n hx hb (show decode cJ0_length_8abf5 5 = .ok (.aload_n 0, 1) by decide +kernel) rfl (lv_at hl 0 rfl) ?_
  refine jx_go (va_runV (As := []) (rest := [.int (Int32.ofNat (px_len.getD i 0))]) (C := "java/lang/String") ⟨hx, hb, hml, hown, hts⟩ (jx_coder l V hi) (cwV 0 hts (px_goodIn (px_w4 jw_coder jw_coderi jw_coders jw_ini) jc_coder) rfl rfl rfl ⟨rfl, by decide, by decide, by decide +kernel⟩ ⟨Nat.le_of_ble_eq_true rfl, Nat.le_of_ble_eq_true rfl⟩) ⟨jx_blind V _, vk_recv hstr hi va_S.rf, fun U hU hW => ⟨rfl, by rw [hU]; exact hwk.moved hW⟩⟩ rfl rfl hl.1 rfl (lv_room (Nat.le_of_ble_eq_true rfl)) (show decode cJ0_length_8abf5 6 = .ok (.invokevirtual 335, 3) by decide +kernel) ⟨Nat.le_of_ble_eq_true rfl, Nat.le_of_ble_eq_true rfl⟩) ?_
  refine lv_ishr hx hb (show decode cJ0_length_8abf5 9 = .ok (.ishr, 1) by decide +kernel) ?_
  rw [jx_shr i hi]
  exact W.iret hx hb hr (fun t ht _ => ⟨rfl, ht⟩) (fun q hq => by cases hq) (show decode cJ0_length_8abf5 10 = .ok (.ireturn, 1) by decide +kernel) hlk
theorem jx_pc (l : Launch) (V : px_V) {k n : Int32} {o : Option Nat} (h0 : ¬ k < 0) (h1 : k < n) : jx_Met l YJ_pc V [.int k, .int n, va_rf o] (some (.int k)) 0 := by
  refine jx_of (by decide) (by cases o <;> exact Nat.le_of_ble_eq_true rfl) ?_
  intro p e s m below meth c ls hx hb hml hown hts hr hlk hwk hl
  have hl : lv_has ls 3 [(0, .int k), (1, .int n), (2, va_rf o)] := by cases o <;> exact hl
  refine lv_iload_n hx hb (show decode cJ3_checkIndex_8e157 0 = .ok (.iload_n 0, 1) by decide +kernel) rfl (lv_at hl 0 rfl) ?_
  refine lv_if_lt (tgt := 9) hx hb (show decode cJ3_checkIndex_8e157 1 = .ok (.ifCond .lt 8, 3) by decide +kernel) (by decide) (fun q => absurd q h0) (fun _ => ?_)
  refine lv_iload_n hx hb (show decode cJ3_checkIndex_8e157 4 = .ok (.iload_n 0, 1) by decide +kernel) rfl (lv_at hl 0 rfl) ?_
  refine lv_iload_n hx hb (show decode cJ3_checkIndex_8e157 5 = .ok (.iload_n 1, 1) by decide +kernel) rfl (lv_at hl 1 rfl) ?_
  refine lv_icmp_lt (tgt := 16) hx hb (show decode cJ3_checkIndex_8e157 6 = .ok (.if_icmp .lt 10, 3) by decide +kernel) (by decide) (fun _ => ?_) (fun q => absurd h1 q)
  refine lv_iload_n hx hb (show decode cJ3_checkIndex_8e157 16 = .ok (.iload_n 0, 1) by decide +kernel) rfl (lv_at hl 0 rfl) ?_
  exact W.iret hx hb hr (fun t ht _ => ⟨rfl, ht⟩) (fun q hq => by cases hq) (show decode cJ3_checkIndex_8e157 17 = .ok (.ireturn, 1) by decide +kernel) hlk
theorem jx_ck (l : Launch) (V : px_V) {k n : Int32} (h0 : ¬ k < 0) (h1 : k < n) : jx_Met l YJ_ck V [.int k, .int n] none 1 := by
  refine jx_of (by decide) (Nat.le_of_ble_eq_true rfl) ?_
  intro p e s m below meth c ls hx hb hml hown hts hr hlk hwk hl
  have hl : lv_has ls 2 [(0, .int k), (1, .int n)] := hl
  have hq : ∃ o : Option Nat, va_Z "jdk/internal/util/Preconditions" "SIOOBE_FORMATTER" "Ljava/util/function/BiFunction;" (va_rf o) (px_A V) s s.heap := by
    rcases hwk.2.2.2.2.2.2.2.2.2.2.2.2.2 with h | ⟨t, h⟩
    · exact ⟨none, h⟩
    · exact ⟨some t, h⟩
  obtain ⟨o, hZ⟩ := hq
  refine lv_iload_n hx hb (show decode cJ0_checkIndex_df160 0 = .ok (.iload_n 0, 1) by decide +kernel) rfl (lv_at hl 0 rfl) ?_
  refine lv_iload_n hx hb (show decode cJ0_checkIndex_df160 1 = .ok (.iload_n 1, 1) by decide +kernel) rfl (lv_at hl 1 rfl) ?_
  refine va_gets hx hb hZ va_S.rf hown (hts _ jw_fmt) (fun _ h => h) (show decode cJ0_checkIndex_df160 2 = .ok (.getstatic 1053, 3) by decide +kernel) ?_
  refine jx_go (va_runS (As := [.int k, .int n, va_rf o]) (rest := []) ⟨hx, hb, hml, hown, hts⟩ (jx_pc l V (o := o) h0 h1) (va_cwS 3 hts (px_goodIn (px_w3 jw_pc jw_pcs jw_ini3) jc_pc) rfl rfl rfl ⟨by decide, by decide, by decide +kernel⟩ ⟨Nat.le_of_ble_eq_true rfl, Nat.le_of_ble_eq_true rfl⟩) ⟨jx_blind V _, fun U hU hW => ⟨rfl, by rw [hU]; exact hwk.moved hW⟩⟩ rfl rfl hl.1 rfl (lv_room (Nat.le_of_ble_eq_true rfl)) (show decode cJ0_checkIndex_df160 5 = .ok (.invokestatic 1059, 3) by decide +kernel) ⟨Nat.le_of_ble_eq_true rfl, Nat.le_of_ble_eq_true rfl⟩) ?_
  refine lv_pop hx hb (show decode cJ0_checkIndex_df160 8 = .ok (.pop, 1) by decide +kernel) rfl ?_
  exact W.vret hx hb hr (fun t ht _ => ⟨rfl, ht⟩) (fun q hq => by cases hq) (show decode cJ0_checkIndex_df160 9 = .ok (.return_, 1) by decide +kernel) hlk
theorem jx_chv : ∀ i : Nat, i < 10 → ∀ j : Nat, j < px_len.getD i 0 → (((px_byt.getD i []).getD j 0 &&& 255).toUInt32.toUInt16.toUInt32.toInt32 = px_st i j) ∧ narrow .char (.int (px_st i j)) = .int (px_st i j) := by decide
theorem jx_lt {k : Int32} {n : Nat} (hn : n < 2 ^ 31) (h : vp_in k n) : ¬ k < 0 ∧ k < Int32.ofNat n ∧ k.toNatClampNeg < n := by
  obtain ⟨j, hj, rfl⟩ := vp_in_of h hn
  refine ⟨nI_pos (by omega), nI_lt hj hn, ?_⟩
  rw [nI_clamp (by omega)]
  exact hj
theorem jx_l31 : ∀ i : Nat, i < 10 → px_len.getD i 0 < 2 ^ 31 := by decide
theorem jx_l1 (l : Launch) (V : px_V) {i : Nat} (hi : i < 10) {k : Int32} (hk : vp_in k (px_len.getD i 0)) : jx_Met l YJ_l1 V [.ref (V.2.2.2.2.2.2 i), .int k] (some (.int (px_st i k.toNatClampNeg))) 2 := by
  obtain ⟨h0, h1, h2⟩ := jx_lt (jx_l31 i hi) hk
  obtain ⟨hv1, hv2⟩ := jx_chv i hi _ h2
  refine jx_of (by decide) (Nat.le_of_ble_eq_true rfl) ?_
  intro p e s m below meth c ls hx hb hml hown hts hr hlk hwk hl
  have hl : lv_has ls 2 [(0, .ref (V.2.2.2.2.2.2 i)), (1, .int k)] := hl
  have hstr := hwk.2.2.2.2.2.2.2.1
  refine lv_iload_n hx hb (show decode cJ1_charAt_3b067 0 = .ok (.iload_n 1, 1) by decide +kernel) rfl (lv_at hl 1 rfl) ?_
  refine lv_aload_n hx hb (show decode cJ1_charAt_3b067 1 = .ok (.aload_n 0, 1) by decide +kernel) rfl (lv_at hl 0 rfl) ?_
  refine va_tlen hx hb (hstr.1 i hi).2.2.2 va_S.rf rfl (show decode cJ1_charAt_3b067 2 = .ok (.arraylength, 1) by decide +kernel) ?_
  refine jx_go (va_runS (As := [.int k, .int (Int32.ofNat (px_len.getD i 0))]) (rest := []) ⟨hx, hb, hml, hown, hts⟩ (jx_ck l V h0 h1) (va_cwS 2 hts (px_goodIn (px_w3 jw_ck jw_cks jw_ini) jc_ck) rfl rfl rfl ⟨by decide, by decide, by decide +kernel⟩ ⟨Nat.le_of_ble_eq_true rfl, Nat.le_of_ble_eq_true rfl⟩) ⟨jx_blind V _, fun U hU hW => ⟨rfl, by rw [hU]; exact hwk.moved hW⟩⟩ rfl rfl hl.1 rfl (lv_room (Nat.le_of_ble_eq_true rfl)) (show decode cJ1_charAt_3b067 3 = .ok (.invokestatic 9, 3) by decide +kernel) ⟨Nat.le_of_ble_eq_true rfl, Nat.le_of_ble_eq_true rfl⟩) ?_
  refine lv_aload_n hx hb (show decode cJ1_charAt_3b067 6 = .ok (.aload_n 0, 1) by decide +kernel) rfl (lv_at hl 0 rfl) ?_
  refine lv_iload_n hx hb (show decode cJ1_charAt_3b067 7 = .ok (.iload_n 1, 1) by decide +kernel) rfl (lv_at hl 1 rfl) ?_
  refine va_tb hx hb (hstr.1 i hi).2.2.2 va_S.rf hk rfl (show decode cJ1_charAt_3b067 8 = .ok (.baload, 1) by decide +kernel) ?_
  refine lv_sipush (v := 255) hx hb (show decode cJ1_charAt_3b067 9 = .ok (.sipush 255, 3) by decide +kernel) (by decide) ?_
  refine lv_iand hx hb (show decode cJ1_charAt_3b067 12 = .ok (.iand, 1) by decide +kernel) ?_
  refine lv_i2c hx hb (show decode cJ1_charAt_3b067 13 = .ok (.i2c, 1) by decide +kernel) hv1 ?_
  exact W.zret hx hb hr hv2 (fun t ht _ => ⟨rfl, ht⟩) (fun q hq => by cases hq) (show decode cJ1_charAt_3b067 14 = .ok (.ireturn, 1) by decide +kernel) hlk
theorem jx_chr (l : Launch) (V : px_V) {i : Nat} (hi : i < 10) {k : Int32} (hk : vp_in k (px_len.getD i 0)) : jx_Met l YJ_chr V [.ref (V.2.1 (3 + i)), .int k] (some (.int (px_st i k.toNatClampNeg))) 3 := by
  obtain ⟨h0, h1, h2⟩ := jx_lt (jx_l31 i hi) hk
  obtain ⟨hv1, hv2⟩ := jx_chv i hi _ h2
  refine jx_of (by decide) (Nat.le_of_ble_eq_true rfl) ?_
  intro p e s m below meth c ls hx hb hml hown hts hr hlk hwk hl
  have hl : lv_has ls 2 [(0, .ref (V.2.1 (3 + i))), (1, .int k)] := hl
  have hstr := hwk.2.2.2.2.2.2.2.1
  refine lv_aload_n hx hb (show decode cJ0_charAt_5068e 0 = .ok (.aload_n 0, 1) by decide +kernel) rfl (lv_at hl 0 rfl) ?_
  refine jx_go (va_runV (As := []) (rest := []) (C := "java/lang/String") ⟨hx, hb, hml, hown, hts⟩ (jx_lat l V hi) (cwV 0 hts (px_goodIn (px_w4 jw_lat jw_lati jw_lats jw_ini) jc_lat) rfl rfl rfl ⟨rfl, by decide, by decide, by decide +kernel⟩ ⟨Nat.le_of_ble_eq_true rfl, Nat.le_of_ble_eq_true rfl⟩) ⟨jx_blind V _, vk_recv hstr hi va_S.rf, fun U hU hW => ⟨rfl, by rw [hU]; exact hwk.moved hW⟩⟩ rfl rfl hl.1 rfl (lv_room (Nat.le_of_ble_eq_true rfl)) (show decode cJ0_charAt_5068e 1 = .ok (.invokevirtual 492, 3) by decide +kernel) ⟨Nat.le_of_ble_eq_true rfl, Nat.le_of_ble_eq_true rfl⟩) ?_
  refine lv_if_eq (tgt := 16) hx hb (show decode cJ0_charAt_5068e 4 = .ok (.ifCond .eq 12, 3) by decide +kernel) (show ((4 : Nat) : Int) + 12 = ((16 : Nat) : Int) by decide) (fun q => absurd q (by decide)) (fun _ => ?_)
  refine lv_aload_n hx hb (show decode cJ0_charAt_5068e 7 = .ok (.aload_n 0, 1) by decide +kernel) rfl (lv_at hl 0 rfl) ?_
  refine vk_getf hx hb (hstr.1 i hi).2.2.1 va_S.rf hown (hts _ jw_value) (fun _ h => h) (show decode cJ0_charAt_5068e 8 = .ok (.getfield 9, 3) by decide +kernel) ?_
  refine lv_iload_n hx hb (show decode cJ0_charAt_5068e 11 = .ok (.iload_n 1, 1) by decide +kernel) rfl (lv_at hl 1 rfl) ?_
  refine jx_go (va_runS (As := [.ref (V.2.2.2.2.2.2 i), .int k]) (rest := []) ⟨hx, hb, hml, hown, hts⟩ (jx_l1 l V hi hk) (va_cwS 2 hts (px_goodIn (px_w3 jw_l1 jw_l1s jw_ini1) jc_l1) rfl rfl rfl ⟨by decide, by decide, by decide +kernel⟩ ⟨Nat.le_of_ble_eq_true rfl, Nat.le_of_ble_eq_true rfl⟩) ⟨jx_blind V _, fun U hU hW => ⟨rfl, by rw [hU]; exact hwk.moved hW⟩⟩ rfl rfl hl.1 rfl (lv_room (Nat.le_of_ble_eq_true rfl)) (show decode cJ0_charAt_5068e 12 = .ok (.invokestatic 495, 3) by decide +kernel) ⟨Nat.le_of_ble_eq_true rfl, Nat.le_of_ble_eq_true rfl⟩) ?_
  exact W.zret hx hb hr hv2 (fun t ht _ => ⟨rfl, ht⟩) (fun q hq => by cases hq) (show decode cJ0_charAt_5068e 15 = .ok (.ireturn, 1) by decide +kernel) hlk
theorem px_ro_str {V : px_V} {G : px_H} {H : Heap} {a n : Nat} {f : Nat → Int32} (hrel : px_rel V G H) (hG : G[a]? = some (.inl (9, n, .inl f))) (h13 : a < 13) : ∃ i, i < 10 ∧ a = 3 + i ∧ n = px_len.getD i 0 ∧ f = px_st i := by
  have e3 := hrel.1 a h13
  rw [hG] at e3
  rcases px_ro_tag h13 e3.symm with ⟨q, -⟩ | ⟨-, q⟩
  · cases q
  · exact q
theorem sx_slen {index : Nat} (hd : decode Y.2.1 pc = .ok (.invokevirtual index, 3)) (hY : Y.1.cls = "WreckField$RuleReader") (hw : Cond.methodLink "WreckField$RuleReader" index ⟨"java/lang/String", "length", "()I"⟩ ∈ px_good) : px_Snd d X Y pc px_slen 3 := by
  refine px_snd_stk (fun st st' h => ?_) ?_
  · obtain ⟨L, S, G⟩ := st
    match S, h with
    | .ref a :: S, h =>
      dsimp only at h
      split at h
      · cases (px_mem_inv h).2; exact ⟨rfl, rfl⟩
      · cases h
  · intro V p l e R s m args below meth c H locs cells slots Q ls hx hb hown hts hwk hS hml hR hcc st st' h hrel hlv h1
    obtain ⟨L, S, G⟩ := st
    match S, h with
    | .ref a :: S, h =>
      dsimp only at h
      split at h
      · next t' n f hG =>
        have hn := (px_mem_inv h).1
        rw [Bool.and_eq_true, Bool.and_eq_true] at hn
        have e1 : t' = 9 := Nat.eq_of_beq_eq_true hn.1.1
        have e2 : a < 13 := Nat.le_of_ble_eq_true hn.2
        have e3 := Nat.le_of_ble_eq_true hn.1.2
        subst e1
        cases (px_mem_inv h).2
        obtain ⟨i, hi, rfl, rfl, rfl⟩ := px_ro_str hrel hG e2
        show W p l e R s m args below meth c H locs cells slots Q (F0 m pc ls (.ref (px_ad V (3 + i)) :: S.map (px_tv V)))
        rw [px_ad_ro e2]
        rw [hY] at hown
        refine jx_go (va_runV (As := []) (rest := S.map (px_tv V)) (C := "java/lang/String") (nL := ls.size) ⟨hx, hb, hml, hown, hts⟩ (jx_len l V hi) (cwV 0 hts (px_goodIn (px_w4 hw jw_leni jw_lens jw_ini) jc_len) rfl rfl rfl ⟨rfl, by decide, by decide, by decide +kernel⟩ ⟨by show 1 + 1 ≤ R.frames; omega, by show 8 + (1 + 11) + 40 * 1 ≤ R.locals; omega⟩) ⟨jx_blind V _, ?_, fun U hU hW => ⟨rfl, by rw [hU]; exact (hwk.kept hS.2.1).moved hW⟩⟩ rfl rfl rfl rfl (by show 2 * 0 + _ ≤ 8; rw [px_cat_tv]; omega) hd ⟨by omega, by omega⟩) h1
        exact vk_recv (adK := fun i => V.2.1 (3 + i)) (i := i) hwk.2.2.2.2.2.2.2.1 hi hS
      · cases h
theorem sx_schr {index : Nat} (hd : decode Y.2.1 pc = .ok (.invokevirtual index, 3)) (hY : Y.1.cls = "WreckField$RuleReader") (hw : Cond.methodLink "WreckField$RuleReader" index ⟨"java/lang/String", "charAt", "(I)C"⟩ ∈ px_good) : px_Snd d X Y pc px_schr 3 := by
  refine px_snd_stk (fun st st' h => ?_) ?_
  · obtain ⟨L, S, G⟩ := st
    match S, h with
    | .int k :: .ref a :: S, h =>
      dsimp only at h
      split at h
      · cases (px_mem_inv h).2; exact ⟨rfl, rfl⟩
      · cases h
  · intro V p l e R s m args below meth c H locs cells slots Q ls hx hb hown hts hwk hS hml hR hcc st st' h hrel hlv h1
    obtain ⟨L, S, G⟩ := st
    match S, h with
    | .int k :: .ref a :: S, h =>
      dsimp only at h
      split at h
      · next t' n f hG =>
        have hn := (px_mem_inv h).1
        simp only [Bool.and_eq_true] at hn
        obtain ⟨⟨⟨b1, b2⟩, b3⟩, b4⟩ := hn
        have e1 : t' = 9 := Nat.eq_of_beq_eq_true b1
        have e2 : a < 13 := Nat.le_of_ble_eq_true b3
        have e3 := Nat.le_of_ble_eq_true b2
        have hk := px_inb_iff.mp b4
        subst e1
        cases (px_mem_inv h).2
        obtain ⟨i, hi, rfl, rfl, rfl⟩ := px_ro_str hrel hG e2
        show W p l e R s m args below meth c H locs cells slots Q (F0 m pc ls (.int k :: .ref (px_ad V (3 + i)) :: S.map (px_tv V)))
        rw [px_ad_ro e2]
        rw [hY] at hown
        refine jx_go (va_runV (As := [.int k]) (rest := S.map (px_tv V)) (C := "java/lang/String") (nL := ls.size) ⟨hx, hb, hml, hown, hts⟩ (jx_chr l V hi hk) (cwV 1 hts (px_goodIn (px_w4 hw jw_chri jw_chrs jw_ini) jc_chr) rfl rfl rfl ⟨rfl, by decide, by decide, by decide +kernel⟩ ⟨by show 3 + 1 ≤ R.frames; omega, by show 8 + (2 + 11) + 40 * 3 ≤ R.locals; omega⟩) ⟨jx_blind V _, ?_, fun U hU hW => ⟨rfl, by rw [hU]; exact (hwk.kept hS.2.1).moved hW⟩⟩ rfl rfl rfl rfl (by show 2 * 0 + _ ≤ 8; rw [px_cat_tv]; omega) hd ⟨by omega, by omega⟩) h1
        exact vk_recv (adK := fun i => V.2.1 (3 + i)) (i := i) hwk.2.2.2.2.2.2.2.1 hi hS
      · cases h
end S10c
