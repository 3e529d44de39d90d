/-! PART 12c: the start of the law -/
/-! THE CLAIM OUT OF ONE WALK OF THE LAW'S BODY. Your part is whole_start (and what it stands on); all else here is the same for every law, but numbers. -/
def R_law : String := "WreckFieldLaw"
def lw_P (b : Addr) (xs : List Int32) (args : Array Value) (s : State) : Prop := args = #[.ref b] ∧ s.IntsAt b xs ∧ xs.length ≤ 3072 ∧ (Jvm.Cond.and given_1 narrow_1).before args s = true
def lw_Q (_ : Array Value) (s : State) (o : Outcome) (t : State) : Prop := o = .returned (some (.int 1)) ∧ Framed s o t [] 600000 7302250
def lw_Z (below : List Frame) (a : Array Value) (s : State) : State → Prop := fun t => ∃ o, t.status = .running ∧ Ended t below o ∧ lw_Q a s o t
/-- the law's own end, with 1 on the stack, nothing written that was there before, its room as the claim has it -/
theorem lw_ret {p : Program} {l : Launch} {e : Env} {s : State} {m : MethodId} {below : List Frame} {meth : Method} {c : Code} {b : Nat} (hx : p.tables.exec = Jvm.exec) (hb : c.code = code) (hr : meth.sig.returnType = ret) (hlocks : meth.locks = false) {pc : Nat} {H : Heap} {ls : Array Slot} (hdg : decode code pc = .ok (.ireturn, 1)) : W p l e room_1 s m #[Value.ref b] below meth c H [] 600000 7302250 (lw_Z below #[Value.ref b] s) (F0 m pc ls [.int 1]) := by
  intro T hT X
  obtain ⟨fs, hret, hrun, hended, hW, hframe⟩ := X.leave (v := some (.int 1)) (hlocks := hlocks) (fun h => by rw [hr] at h; cases h)
  have hmeth' : T.vm.method? m = some meth := X.method'
  refine ⟨T.setFrames fs, ?_, .returned (some (.int 1)), hrun, hended, rfl, ⟨_, rfl⟩, hW, hframe⟩
  jvm_step X.here [X.here.top, hx, hb, hdg, hmeth', hr, ret, narrow_b1]
  (try refine ⟨rfl, ?_⟩); (try refine ⟨rfl, ?_⟩)
  first | (intro acts; rw [hret _ acts rfl rfl rfl]) | rw [hret _ _ rfl rfl rfl]
  exact Steps.refl _
/-- what holds at the law's entry: the machine, the code, the tables' words (any of lw_tbl by 'hts w (by decide +kernel)'), the script of L ints xs at the cell b, what the Statement gives of the start (any of its parts by flat_of_before) -/
def lw_At (p : Program) (s : State) (m : MethodId) (meth : Method) (c : Code) (b L : Nat) (xs : Nat → Int32) : Prop :=
  p.tables.exec = Jvm.exec ∧ c.code = code ∧ meth.sig.returnType = ret ∧ c.maxLocals = 4 ∧ s.vm.findClass R_law = some m.cls ∧ (∀ w ∈ lw_tbl, w.before #[Value.ref b] s = true) ∧ va_X b L xs s s.heap ∧ b < s.heap.size ∧ meth.locks = false ∧ (Jvm.Cond.and given_1 narrow_1).before #[Value.ref b] s = true ∧ meth.name = "law"
-- the start of the law: the world out of what the Statement gives; the pure machine's answer is the law's
def px_ix (i : Nat) : Nat := (px_tx.getD i (0, "")).1
def px_ro0 (L : Nat) (xs : Nat → Int32) : List va_E := [.inl (0, L, .inl xs), .inl (0, 6, .inl px_KA), .inl (0, 6, .inl px_WK), .inl (9, 4, .inl (px_st 0)), .inl (9, 4, .inl (px_st 1)), .inl (9, 5, .inl (px_st 2)), .inl (9, 1, .inl (px_st 3)), .inl (9, 1, .inl (px_st 4)), .inl (9, 3, .inl (px_st 5)), .inl (9, 3, .inl (px_st 6)), .inl (9, 2, .inl (px_st 7)), .inl (9, 3, .inl (px_st 8)), .inl (9, 3, .inl (px_st 9))]
theorem px_fam {args : Array Value} {s : State} {N : Nat} {f : Nat → Cond} (hf : ∀ c ∈ flatC (Jvm.Cond.and given_1 narrow_1), c.before args s = true) (h : ((List.range N).all fun i => decide (f i ∈ flatC (Jvm.Cond.and given_1 narrow_1))) = true) : ∀ i, i < N → (f i).before args s = true := fun i hi => hf _ (of_decide_eq_true (List.all_eq_true.mp h i (List.mem_range.mpr hi)))
theorem px_famT {args : Array Value} {s : State} {N : Nat} {f : Nat → Cond} (hts : ∀ w ∈ lw_tbl, w.before args s = true) (h : ((List.range N).all fun i => decide (f i ∈ lw_tbl)) = true) : ∀ i, i < N → (f i).before args s = true := fun i hi => hts _ (of_decide_eq_true (List.all_eq_true.mp h i (List.mem_range.mpr hi)))
theorem px_overA {args : Array Value} {s : State} (h : (Cond.arrayOver (.array .int)).before args s = true) : ∃ comp c k, s.vm.findClass (FieldType.array .int).toString = some comp ∧ s.vm.classes[c]? = some k ∧ k.kind = .array comp (.array .int) ∧ s.vm.findClass ("[" ++ (FieldType.array .int).toString) = some c := by
  unfold Cond.before Cond.holds at h
  simp only [Cond.value, beq_iff_eq] at h
  cases hc : s.vm.findClass (FieldType.array .int).toString with
  | none => rw [hc] at h; simp at h
  | some comp =>
    rw [hc] at h
    simp only [Option.bind_some, Option.bind_eq_some_iff, Option.map_eq_some_iff] at h
    obtain ⟨c, hi, k, hk, hb⟩ := h
    obtain ⟨hlt, hp, -⟩ := Array.findIdx?_eq_some_iff_getElem.mp hi
    rw [(Array.getElem?_eq_some_iff.mp hk).2] at hp
    cases hkind : k.kind with
    | array component ty =>
      rw [hkind] at hb hp
      simp at hb hp
      exact ⟨comp, c, k, rfl, hk, by rw [hkind, hp, hb.1], hb.2⟩
    | _ => rw [hkind] at hb; simp at hb
theorem px_arrOf {s : State} {c : ClassId} {k : Class} {comp : ClassId} {ty : FieldType} (h2 : s.vm.classes[c]? = some k) (h3 : k.kind = .array comp ty) : ArrOfT s c ty := fun N z => ⟨(fun k h => by cases h), k, h2, comp, h3⟩
set_option maxRecDepth 20000 in
set_option maxHeartbeats 4000000 in
theorem px_world {s : State} {b L : Nat} {xs : Nat → Int32} (hts : ∀ w ∈ lw_tbl, w.before #[Value.ref b] s = true) (hX : va_X b L xs s s.heap) (hbl : b < s.heap.size) (hgv : (Jvm.Cond.and given_1 narrow_1).before #[Value.ref b] s = true) : ∃ V : px_V, V.1 = s.heap.size ∧ V.2.1 0 = b ∧ px_ro V = px_ro0 L xs ∧ px_wk V s s.heap := by
  have hf := flat_of_before _ hgv
  have hA : ∀ a : Nat, a < s.heap.size → ¬ (fun q : Nat => s.heap.size ≤ q) a := fun a h => Nat.not_le.mpr h
  have hgood : ∀ w ∈ px_good, w.before #[Value.ref b] s = true := fun w hw => hts w (List.mem_filter.mp hw).1
  -- the two rows of Find
  obtain ⟨tk, hk1, hk2⟩ := va_Tof (args := #[Value.ref b]) (s := s) (tm := .static "WreckField$Find" "KIND_ABOVE" "[I") (ty := .int) (N := 6) (f := fun j => .int (px_KA j)) (A := fun q : Nat => s.heap.size ≤ q) (by decide) (hf _ (by decide +kernel)) (va_eqt (hf _ (by decide +kernel))) (fun j hj => va_eqt (px_fam (f := fun j => Cond.eq (.elem (.static "WreckField$Find" "KIND_ABOVE" "[I") (.int (Int32.ofNat j))) (.int (px_KA j))) hf (by decide +kernel) j hj)) hA
  obtain ⟨tw, hw1, hw2⟩ := va_Tof (args := #[Value.ref b]) (s := s) (tm := .static "WreckField$Find" "WEEKS" "[I") (ty := .int) (N := 6) (f := fun j => .int (px_WK j)) (A := fun q : Nat => s.heap.size ≤ q) (by decide) (hf _ (by decide +kernel)) (va_eqt (hf _ (by decide +kernel))) (fun j hj => va_eqt (px_fam (f := fun j => Cond.eq (.elem (.static "WreckField$Find" "WEEKS" "[I") (.int (Int32.ofNat j))) (.int (px_WK j))) hf (by decide +kernel) j hj)) hA
  have hzk := va_Zref (A := fun q : Nat => s.heap.size ≤ q) (hts (.laysStatic "WreckField$Find" "KIND_ABOVE" "[I") (by decide +kernel)) (hts (.initialized "WreckField$Find") (by decide +kernel)) hk1 hA
  have hzw := va_Zref (A := fun q : Nat => s.heap.size ≤ q) (hts (.laysStatic "WreckField$Find" "WEEKS" "[I") (by decide +kernel)) (hts (.initialized "WreckField$Find") (by decide +kernel)) hw1 hA
  have hzc := va_Zof (A := fun q : Nat => s.heap.size ≤ q) (hts (.laysStatic "java/lang/String" "COMPACT_STRINGS" "Z") (by decide +kernel)) (hts (.initialized "java/lang/String") (by decide +kernel)) (va_eqi (z := 1) (hf _ (by decide +kernel))) hA
  have hzq := va_Zqof (A := fun q : Nat => s.heap.size ≤ q) (hts (.laysStatic "jdk/internal/util/Preconditions" "SIOOBE_FORMATTER" "Ljava/util/function/BiFunction;") (by decide +kernel)) (hts (.initialized "jdk/internal/util/Preconditions") (by decide +kernel)) (hf _ (by decide +kernel)) hA
  -- the texts
  obtain ⟨adK, adV, hstr, hadr⟩ := vk_Sof (args := #[Value.ref b]) (s := s) (N := 10) (tm := fun i => .string RX5 (px_ix i)) (len := px_len) (byt := px_byt) (A := fun q : Nat => s.heap.size ≤ q) (by decide) (px_fam (f := fun i => Cond.exactly (.string RX5 (px_ix i)) "java/lang/String") hf (by decide +kernel)) (px_fam (f := fun i => Cond.eq (.field (.string RX5 (px_ix i)) "java/lang/String" "coder" "B") (.int 0)) hf (by decide +kernel)) (px_fam (f := fun i => Cond.arrayOf (.field (.string RX5 (px_ix i)) "java/lang/String" "value" "[B") .byte) hf (by decide +kernel)) (px_fam (f := fun i => Cond.eq (.length (.field (.string RX5 (px_ix i)) "java/lang/String" "value" "[B")) (.int (Int32.ofNat (px_len.getD i 0)))) hf (by decide +kernel))
    (by
      have h : ((List.range 10).all fun i => (List.range (px_len.getD i 0)).all fun j => decide (Cond.eq (.elem (.field (.string RX5 (px_ix i)) "java/lang/String" "value" "[B") (.int (Int32.ofNat j))) (.int ((px_byt.getD i []).getD j 0)) ∈ flatC (Jvm.Cond.and given_1 narrow_1))) = true := by decide +kernel
      exact fun i hi j hj => hf _ (of_decide_eq_true (List.all_eq_true.mp (List.all_eq_true.mp h i (List.mem_range.mpr hi)) j (List.mem_range.mpr hj))))
    (by
      have h : ((List.range 10).all fun i => (List.range 10).all fun j => decide (i = j) || (decide (Cond.not (Cond.eq (.string RX5 (px_ix i)) (.string RX5 (px_ix j))) ∈ flatC (Jvm.Cond.and given_1 narrow_1)) || decide (Cond.not (Cond.eq (.string RX5 (px_ix j)) (.string RX5 (px_ix i))) ∈ flatC (Jvm.Cond.and given_1 narrow_1)))) = true := by decide +kernel
      intro i j hi hj hij
      have h2 := List.all_eq_true.mp (List.all_eq_true.mp h i (List.mem_range.mpr hi)) j (List.mem_range.mpr hj)
      simp only [Bool.or_eq_true, decide_eq_true_eq] at h2
      rcases h2 with h2 | h2 | h2
      · exact absurd h2 hij
      · exact Or.inl (hf _ h2)
      · exact Or.inr (hf _ h2)) hA
  -- classes
  obtain ⟨c0, iS0, hKn0⟩ := u_known (C := RX0) (T := TX0) (N := 5) (n := 5) hgood iX0 (hts (.instantiable RX0 5) (by decide +kernel))
  obtain ⟨c1, iS1, hKn1⟩ := u_known (C := RX1) (T := TX1) (N := 7) (n := 7) hgood iX1 (hts (.instantiable RX1 7) (by decide +kernel))
  obtain ⟨c2, iS2, hKn2⟩ := u_known (C := RX2) (T := TX2) (N := 9) (n := 9) hgood iX2 (hts (.instantiable RX2 9) (by decide +kernel))
  obtain ⟨c3, iS3, hKn3⟩ := u_known (C := RX3) (T := TX3) (N := 10) (n := 10) hgood iX3 (hts (.instantiable RX3 10) (by decide +kernel))
  obtain ⟨c4, iS4, hKn4⟩ := u_known (C := RX4) (T := TX4) (N := 6) (n := 6) hgood iX4 (hts (.instantiable RX4 6) (by decide +kernel))
  obtain ⟨c5, iS5, hKn5⟩ := u_known (C := RX5) (T := TX5) (N := 8) (n := 8) hgood iX5 (hts (.instantiable RX5 8) (by decide +kernel))
  obtain ⟨c6, iS6, hKn6⟩ := u_known (C := RX6) (T := TX6) (N := 3) (n := 3) hgood iX6 (hts (.instantiable RX6 3) (by decide +kernel))
  obtain ⟨c7, iS7, hKn7⟩ := u_known (C := RX7) (T := TX7) (N := 18) (n := 18) hgood iX7 (hts (.instantiable RX7 18) (by decide +kernel))
  obtain ⟨c8, iS8, hKn8⟩ := u_known (C := RX8) (T := TX8) (N := 3) (n := 3) hgood iX8 (hts (.instantiable RX8 3) (by decide +kernel))
  obtain ⟨c9, iS9, hKn9⟩ := u_known (C := RX9) (T := TX9) (N := 2) (n := 2) hgood iX9 (hts (.instantiable RX9 2) (by decide +kernel))
  obtain ⟨c10, iS10, hKn10⟩ := u_known (C := RX10) (T := TX10) (N := 5) (n := 5) hgood iX10 (hts (.instantiable RX10 5) (by decide +kernel))
  obtain ⟨c11, iS11, hKn11⟩ := u_known (C := RX11) (T := TX11) (N := 8) (n := 8) hgood iX11 (hts (.instantiable RX11 8) (by decide +kernel))
  obtain ⟨c12, iS12, hKn12⟩ := u_known (C := RX12) (T := TX12) (N := 69) (n := 69) hgood iX12 (hts (.instantiable RX12 69) (by decide +kernel))
  obtain ⟨dC, dI, hKc⟩ : ∃ (dC : Nat → ClassId) (dI : Nat → Nat → Nat), ∀ (k : Nat) (q : vw_C), px_cl[k]? = some q → u_Kn s q.1 q.2.1 q.2.2 (dC k) (dI k) := by
    refine ⟨fun k => match k with | 0 => c0 | 1 => c1 | 2 => c2 | 3 => c3 | 4 => c4 | 5 => c5 | 6 => c6 | 7 => c7 | 8 => c8 | 9 => c9 | 10 => c10 | 11 => c11 | _ => c12, fun k => match k with | 0 => iS0 | 1 => iS1 | 2 => iS2 | 3 => iS3 | 4 => iS4 | 5 => iS5 | 6 => iS6 | 7 => iS7 | 8 => iS8 | 9 => iS9 | 10 => iS10 | 11 => iS11 | _ => iS12, ?_⟩
    intro k q hq
    match k, hq with
    | 0, hq => cases hq; exact hKn0
    | 1, hq => cases hq; exact hKn1
    | 2, hq => cases hq; exact hKn2
    | 3, hq => cases hq; exact hKn3
    | 4, hq => cases hq; exact hKn4
    | 5, hq => cases hq; exact hKn5
    | 6, hq => cases hq; exact hKn6
    | 7, hq => cases hq; exact hKn7
    | 8, hq => cases hq; exact hKn8
    | 9, hq => cases hq; exact hKn9
    | 10, hq => cases hq; exact hKn10
    | 11, hq => cases hq; exact hKn11
    | 12, hq => cases hq; exact hKn12
    | k + 13, hq => simp [px_cl] at hq
  -- arrays
  obtain ⟨a0, k0, m0, hi1, hi2, hi3⟩ := Cond.arrayClass_spec (hts (.arrayClass .int) (by decide +kernel))
  obtain ⟨a1, k1, m1, hz1, hz2, hz3⟩ := Cond.arrayClass_spec (hts (.arrayClass .boolean) (by decide +kernel))
  obtain ⟨a2, k2, m2, hj1, hj2, hj3⟩ := Cond.arrayClass_spec (hts (.arrayClass .long) (by decide +kernel))
  obtain ⟨m3, a3, k3, hp1, -, hp2, hp3, hp4⟩ := Cond.arrayOver_spec (hts (.arrayOver (.object "WreckField$Find")) (by decide +kernel))
  obtain ⟨m4, a4, k4, hq1, -, hq2, hq3, hq4⟩ := Cond.arrayOver_spec (hts (.arrayOver (.object "WreckField$Dive")) (by decide +kernel))
  obtain ⟨m5, a5, k5, hr1, hr2, hr3, hr4⟩ := px_overA (hts (.arrayOver (.array .int)) (by decide +kernel))
  have e5 : m5 = a0 := Option.some.inj (hr1.symm.trans hi1)
  refine ⟨(s.heap.size, fun k => match k with | 0 => b | 1 => tk | 2 => tw | k + 3 => adK k, (dC, dI), fun t => match t with | 0 => a0 | 1 => a1 | 2 => a2 | 3 => a3 | 4 => a4 | _ => a5, xs, L, adV), rfl, rfl, rfl, ⟨hKc, ?_⟩, ?_, hk2, hw2, hzk, hzw, ?_, ?_, hzc, ?_, va_AO.of (hts (.arrayOver (.object "WreckField$Find")) (by decide +kernel)), va_AO.of (hts (.arrayOver (.object "WreckField$Dive")) (by decide +kernel)), ⟨k5, hr2, by rw [hr3, e5]; rfl⟩, hzq⟩
  · intro k q hq
    match k, hq with
    | 0, hq => cases hq; exact ⟨px_arrOf hi2 hi3, hi1⟩
    | 1, hq => cases hq; exact ⟨px_arrOf hz2 hz3, hz1⟩
    | 2, hq => cases hq; exact ⟨px_arrOf hj2 hj3, hj1⟩
    | 3, hq => cases hq; exact ⟨px_arrOf hp2 hp3, k3, m3, hp2, hp3, hp1, hp4⟩
    | 4, hq => cases hq; exact ⟨px_arrOf hq2 hq3, k4, m4, hq2, hq3, hq1, hq4⟩
    | 5, hq => cases hq; exact ⟨px_arrOf hr2 hr3, hr4⟩
    | k + 6, hq => simp [px_tys] at hq
  · obtain ⟨scr, g1, g2, g3, g4, g5⟩ := hX
    exact ⟨scr, g1, g2, g3, Nat.le_of_eq g4.symm, by rw [g4], g5, hA b hbl⟩
  · have hsr := px_famT (N := 10) (f := fun i => Cond.stringRef RX5 (px_ix i) (px_tx.getD i (0, "")).2) hts (by decide +kernel)
    intro i q hq
    have hi : i < 10 := (List.getElem?_eq_some_iff.mp hq).1
    have hd : px_tx.getD i (0, "") = q := by rw [List.getD_eq_getElem?_getD, hq]; rfl
    have h1 := hsr i hi
    have h2 := hadr i hi
    unfold px_ix at h1 h2
    rw [hd] at h1 h2
    refine vk_R.of h1 ?_
    rw [show (3 + i) = i + 3 from Nat.add_comm 3 i]
    exact h2
  · refine (show vk_S 10 px_len px_byt (fun i => (fun k => match k with | 0 => b | 1 => tk | 2 => tw | k + 3 => adK k) (3 + i)) adV _ s s.heap from ?_)
    have e : (fun i => (fun k => match k with | 0 => b | 1 => tk | 2 => tw | k + 3 => adK k) (3 + i)) = adK := by
      funext i
      rw [show (3 + i) = i + 3 from Nat.add_comm 3 i]
    rw [e]
    exact hstr
  · have h : (px_nest.all fun q => decide (Cond.methodLinkNest q.1 q.2.1 q.2.2.1 q.2.2.2 ∈ lw_tbl)) = true := by decide +kernel
    intro q hq
    exact va_Nw.of rfl (hts _ (of_decide_eq_true (List.all_eq_true.mp h q hq)))
theorem px_mq_lw {below : List Frame} {a : Array Value} {s t : State} {V : px_V} {r : px_R} (hV : V.1 = s.heap.size) (hr : r.1 = some (.int 1)) (h : MQ below (px_Qc V r) a s 600000 7302250 (px_A V) t) : lw_Z below a s t := by
  obtain ⟨o, h1, h2, ⟨h3, -, -⟩, L, ⟨h4, h5, h6⟩, h7⟩ := h
  rw [hr] at h3
  refine ⟨o, h1, h2, h3, h4, h5, ?_⟩
  exact State.sameButNew.drop_fresh (L := []) (J := L) (by rw [List.nil_append]; exact h6) (fun x hx => by have := h7 x hx; unfold px_A at this; rw [hV] at this; exact this)
/-- the law's walk, out of the pure machine's answer -/
theorem px_start (hlaw : ∀ (L : Nat) (xs : Nat → Int32), L ≤ 3072 → ∃ r : px_R, px_ex px_tab 60 256 [.ref 0] (px_ro0 L xs) = some r ∧ r.1 = some (.int 1) ∧ r.2.length ≤ 600000 ∧ px_sz r.2 ≤ 7302250) {p : Program} {e : Env} {s : State} {m : MethodId} {below : List Frame} {meth : Method} {c : Code} (l : Launch) {b L : Nat} {xs : Nat → Int32} (hL : L ≤ 3072) (C0 : lw_At p s m meth c b L xs) : W p l e room_1 s m #[Value.ref b] below meth c s.heap [] 0 0 (lw_Z below #[Value.ref b] s) (entryFrame m ([Value.ref b] : List Value).toArray 4) := by
  obtain ⟨hx, hb, hr, hml, hown, hts, hX, hbl, hlocks, hgv, hnm⟩ := C0
  obtain ⟨V, hV1, hV2, hV3, hwk⟩ := px_world hts hX hbl hgv
  obtain ⟨r, h1, h2, h3, h4⟩ := hlaw L xs hL
  obtain ⟨hG, hM⟩ := px_sound px_tab_ok 59
  rw [xL_law, px_run_iff] at h1
  obtain ⟨n, hn⟩ := h1
  have hy : px_Hy V 59 YL_law (p, l, e, room_1, s, m, #[Value.ref b], below, meth, c, 13, px_sz (px_ro0 L xs), r, lw_Z below #[Value.ref b] s) := by
    refine ⟨hx, hb, hml, hown, fun w hw => hts w (List.mem_filter.mp hw).1, hr, hlocks, ?_, hwk, ?_, Nat.le_refl _, ⟨by decide, by decide⟩, ?_, ?_, fun t ht => px_mq_lw hV1 h2 ht⟩
    · exact hnm
    · rw [hV1]
    · show r.2.length ≤ 600000 + 13
      omega
    · show px_sz r.2 ≤ 7302250 + px_sz (px_ro0 L xs)
      omega
  have hw := px_runN_aw (sL_law 59 (px_ex px_tab 59)) hG hy (hM V l) n 0 _ hn
  rw [lg_entry_eq]
  have hlv := px_lv_entry V (as := [.ref 0]) (n := 4) (by decide)
  have hb0 : ([Value.ref 0] : List Value).map (px_tv V) = [Value.ref b] := by
    show [Value.ref (px_ad V 0)] = _
    rw [px_ad_ro (by decide), hV2]
  rw [hb0] at hlv
  refine hw s.heap [] _ 0 0 ?_ va_S.rf hlv (by show 0 + 13 = (px_ro0 L xs).length; rfl) (by show 0 + px_sz (px_ro0 L xs) = px_sz (px_ro0 L xs); omega)
  refine ⟨fun k _ => by rw [hV3], by show 13 ≤ (px_ro0 L xs).length; exact Nat.le_refl _, ?_⟩
  intro k q hq
  have hq' := (px_img_at hq).2
  have : (px_ro0 L xs).length = 13 := rfl
  dsimp only at hq'
  omega
