/-! PART 08: sound: rows of rows, new cells, ends -/
section S8
variable {d : Nat} {X : px_X} {Y : px_Y} {pc : Nat}
theorem sx_aaldA {t : Nat} {ty : FieldType} (ht : ∀ V, (px_tys V)[t]? = some (V.2.2.2.1 t, .array ty)) (hd : decode Y.2.1 pc = .ok (.aaload, 1)) : px_Snd d X Y pc (px_aald t) 1 := by
  refine px_snd_alt (fun st o st' h => ?_) ?_
  · obtain ⟨L, S, G⟩ := st
    match S, h with
    | .int i :: .ref a :: S, h =>
      dsimp only at h
      split at h
      · have hst : _ = st' := congrArg (fun q => q.2.2) (Option.some.inj h)
        dsimp only at hst
        subst hst
        exact ⟨rfl, rfl⟩
      · cases h
  · intro V p l e R s m args below meth c H locs cells slots Q ls hx hb hwk hS st o st' h hrel h1
    obtain ⟨L, S, G⟩ := st
    match S, h with
    | .int i :: .ref a :: S, h =>
      dsimp only at h
      split at h
      · next t' n f hG =>
        have hh := Option.some.inj h
        have hn : _ = true := congrArg (fun q => q.1) hh
        have ho : _ = o := congrArg (fun q => q.2.1) hh
        have hst : _ = st' := congrArg (fun q => q.2.2) hh
        dsimp only at hn ho hst
        simp only [Bool.and_eq_true] at hn
        obtain ⟨⟨b2, b3⟩, b1⟩ := hn
        have e1 : t' = t := Nat.eq_of_beq_eq_true b2
        subst e1
        subst ho
        subst hst
        rw [px_tv_rf] at h1
        have hin := px_inb_iff.mp b1
        have hlt : i.toNatClampNeg < n := Nat.not_le.mp fun q => hin (Or.inr q)
        exact W.aald (v := va_rf ((f i.toNatClampNeg).map (px_ad V))) (ty := .array ty) hx hb (hrel.2.2 (a - 13) _ (px_img_get (Nat.le_of_ble_eq_true b3) hG)) ((hwk.1.2 t' _ (ht V)).1 n (fun j => va_rf ((f j).map (px_ad V)))) rfl (fun q => by cases q) (by show ¬ (i < 0 ∨ (arrV _ _ _).slots.size ≤ _); rw [arrV_size]; exact hin) (by show (arrV _ _ _).slots[_]? = _; rw [arrV_read _ _ hlt]) rfl rfl hd h1
      · cases h
theorem px_sized {p : Program} {l : Launch} {e : Env} {R : Room} {s : State} {m : MethodId} {args : Array Value} {below : List Frame} {meth : Method} {c : Code} {H : Heap} {locs : List Loc} {cells slots : Nat} {Q : State → Prop} {g : JFrame} (h : H.size ≤ s.heap.size + cells → W p l e R s m args below meth c H locs cells slots Q g) : W p l e R s m args below meth c H locs cells slots Q g := fun T hT Xs => h (by rw [← hT]; exact Xs.heapSize) T hT Xs
/-- the address of a new cell: the next one -/
theorem px_next {V : px_V} {G : px_H} {H1 : Heap} {q : Nat} {e : va_E} (hG : 13 ≤ G.length) (hP : va_P V.2.2.1 px_cl (px_img V G ++ [(q, e)]) H1) (hD : va_D (px_A V) (px_img V G ++ [(q, e)])) (hs : H1.size + 13 ≤ V.1 + G.length + 1) : q = V.1 + (G.length - 13) := by
  have hl : (px_img V G ++ [(q, e)])[G.length - 13]? = some (q, e) := by
    rw [List.getElem?_append_right (by rw [px_img_len]; exact Nat.le_refl _), px_img_len]
    simp
  have h1 := (hP _ _ hl).lt
  have h2 : V.1 ≤ q := hD.2 _ _ hl
  dsimp only at h1
  by_cases h3 : q < V.1 + (G.length - 13)
  · exfalso
    have hk : 13 + (q - V.1) < G.length := by omega
    have h4 := px_img_get (V := V) (G := G) (k := 13 + (q - V.1)) (by omega) (List.getElem?_eq_getElem hk)
    have h5 : (px_img V G ++ [(q, e)])[q - V.1]? = some (px_ad V (13 + (q - V.1)), px_te V G[13 + (q - V.1)]) := by
      rw [List.getElem?_append_left (by rw [px_img_len]; omega)]
      rw [show 13 + (q - V.1) - 13 = q - V.1 by omega] at h4
      exact h4
    have h6 := hD.1 _ _ _ _ h5 hl (by show px_ad V (13 + (q - V.1)) = q; unfold px_ad; rw [if_neg (by omega)]; omega)
    omega
  · omega
theorem px_rel_app {V : px_V} {G : px_H} {H H1 : Heap} {q : Nat} {e : va_E} (h : px_rel V G H) (hP : va_P V.2.2.1 px_cl (px_img V G ++ [(q, px_te V e)]) H1) (hD : va_D (px_A V) (px_img V G ++ [(q, px_te V e)])) (hs : H1.size + 13 ≤ V.1 + G.length + 1) : px_rel V (G ++ [e]) H1 ∧ q = px_ad V G.length := by
  have e1 := px_next h.2.1 hP hD hs
  subst e1
  refine ⟨⟨fun k hk => ?_, by simp; have := h.2.1; omega, ?_⟩, ?_⟩
  · rw [List.getElem?_append_left (by have := h.2.1; omega)]
    exact h.1 k hk
  · rw [px_img_app h.2.1]
    exact hP
  · unfold px_ad
    rw [if_neg (by have := h.2.1; omega)]
/-- an instruction that makes a cell -/
theorem px_snd_new {len : Nat} {f : px_S → Option (Bool × px_S)} (hf : ∀ st st', f st = some (true, st') → st'.1 = st.1 ∧ ∃ e S, st'.2.2 = st.2.2 ++ [e] ∧ st'.2.1 = .ref st.2.2.length :: S)
    (hw : ∀ (V : px_V) (p : Program) (l : Launch) (e : Env) (R : Room) (s : State) (m : MethodId) (args : Array Value) (below : List Frame) (meth : Method) (c : Code) (H : Heap) (locs : List Loc) (cells slots : Nat) (Q : State → Prop) (ls : Array Slot), p.tables.exec = Jvm.exec → c.code = Y.2.1 → s.vm.findClass Y.1.cls = some m.cls → (∀ w ∈ px_good, w.before args s = true) → px_wk V s s.heap → va_S (px_A V) s.heap H locs → (∀ q : Nat, s.heap.size ≤ q → px_A V q) → ∀ st st' e0 S, f st = some (true, st') → st'.2.2 = st.2.2 ++ [e0] → st'.2.1 = .ref st.2.2.length :: S → px_rel V st.2.2 H → cells + 1 ≤ R.cells → slots + px_es e0 ≤ R.slots →
      (∀ q H1, va_P V.2.2.1 px_cl (px_img V st.2.2 ++ [(q, px_te V e0)]) H1 → va_D (px_A V) (px_img V st.2.2 ++ [(q, px_te V e0)]) → va_S (px_A V) s.heap H1 locs → W p l e R s m args below meth c H1 locs (cells + 1) (slots + px_es e0) Q (F0 m (pc + len) ls (.ref q :: S.map (px_tv V)))) → W p l e R s m args below meth c H locs cells slots Q (F0 m pc ls (st.2.1.map (px_tv V)))) : px_Snd d X Y pc (px_mem f) len := by
  refine px_snd_mem (fun st st' h => ?_) (fun V Γ hy st st' h hle h1 => ?_)
  · obtain ⟨-, e, S, g1, -⟩ := hf st st' h
    rw [g1]
    exact px_le_app _ _
  · obtain ⟨h0, e0, S, g1, g2⟩ := hf st st' h
    obtain ⟨p, l, e, R, s, m, args, below, meth, c, n0, z0, r, Q⟩ := Γ
    obtain ⟨hx, hb, hml, hown, hts, -, -, -, hwk, hbs, hn0, hR, hc, hz, -⟩ := hy
    intro H locs ls cells slots h2 h3 h4 h5 h6
    have hle : px_le st'.2.2 r.2 := hle
    rw [g1] at hle
    obtain ⟨l1, l2⟩ := hle
    rw [px_sz_app] at l2
    simp only [List.length_append, List.length_singleton] at l1
    have l3 : px_sz [e0] = px_es e0 := by simp [px_sz]
    rw [l3] at l2
    refine hw V p l e R s m args below meth c H locs cells slots Q ls hx hb hown hts hwk h3 (fun q hq => ?_) st st' e0 S h g1 g2 h2 (by omega) (by omega) (fun q H1 k1 k2 k3 => px_sized fun hs => ?_)
    · show V.1 ≤ q
      omega
    · obtain ⟨k4, rfl⟩ := px_rel_app h2 k1 k2 (by omega)
      have k5 := h1 H1 locs ls (cells + 1) (slots + px_es e0) (by rw [g1]; exact k4) k3 (by rw [h0]; exact h4) (by rw [g1]; simp; omega) (by rw [g1, px_sz_app, l3]; omega)
      rw [g2] at k5
      exact k5
theorem sx_new {ci index N : Nat} {C : String} {T : u_T} {ty0 : Nat → FieldType} {fs : List Value} (hd : decode Y.2.1 pc = .ok (.new index, 3)) (hc : px_cl[ci]? = some (C, T, N)) (hin : ∀ w ∈ u_ws C T N, w ∈ px_good) (hty : ∀ k, k < N → parseFieldDescriptor (T k).2.2.1 = some (ty0 k)) (h1 : Cond.classLink Y.1.cls index C ∈ px_good) (h2 : Cond.instantiable C N ∈ px_good) (h3 : Cond.initialized C ∈ px_good) (hfs : ∀ j, j < N → defaultValue (ty0 j) = vp_V fs j) (hfl : fs.length = N) (hfv : ∀ V, fs.map (px_tv V) = fs) : px_Snd d X Y pc (px_new ci fs) 3 := by
  refine px_snd_new (fun st st' h => ?_) ?_
  · cases (px_mem_inv h).2
    exact ⟨rfl, _, _, rfl, rfl⟩
  · intro V p l e R s m args below meth c H locs cells slots Q ls hx hb hown hts hwk hS hA st st' e0 S h g1 g2 hrel hc1 hc2 k
    cases (px_mem_inv h).2
    have e1 : e0 = .inr (ci, fs) := by
      have := List.append_cancel_left g1
      cases this
      rfl
    subst e1
    cases g2
    have hN : px_es (.inr (ci, fs) : va_E) = N := hfl
    rw [hN] at hc2 k
    have ht : px_te V (.inr (ci, fs)) = .inr (ci, fs) := by
      show Sum.inr (ci, fs.map (px_tv V)) = _
      rw [hfv V]
    rw [ht] at k
    exact va_new hx hb hts hin ty0 hty hown (hts _ h1) (hts _ h2) (hts _ h3) hwk.1 hrel.2.2 (px_img_D V st.2.2) hS hA hc hfs hc1 hc2 hd k
theorem px_newa_id {V : px_V} {s : State} {cA : ClassId} {t : Nat} {ty : FieldType} (hK : va_K V.2.2.1 px_cl (px_tys V) s) (ht : (px_tys V)[t]? = some (V.2.2.2.1 t, ty)) (hp : ∀ (c1 c2 : ClassId), va_RA s c1 ty → va_RA s c2 ty → c1 = c2) (hK2 : va_K V.2.2.1 px_cl (px_tys V ++ [(cA, ty)]) s) : cA = V.2.2.2.1 t := by
  have h1 := (hK.2 t _ ht).2
  have h2 := (hK2.2 (px_tys V).length (cA, ty) (by rw [List.getElem?_append_right (Nat.le_refl _)]; simp)).2
  exact hp _ _ h2 h1
theorem sx_newi {t : Nat} {atype : ArrayType} {ty : FieldType} (hd : decode Y.2.1 pc = .ok (.newarray atype, 2)) (hty : newarray.typeOf atype = ty) (ht : ∀ V, (px_tys V)[t]? = some (V.2.2.2.1 t, ty)) (hti : ty = .int ∨ ty = .boolean) (hw : Cond.arrayClass (newarray.typeOf atype) ∈ px_good) : px_Snd d X Y pc (px_newi t) 2 := by
  refine px_snd_new (fun st st' h => ?_) ?_
  · obtain ⟨L, S, G⟩ := st
    match S, h with
    | .int n :: S, h =>
      cases (px_mem_inv h).2
      exact ⟨rfl, _, _, rfl, rfl⟩
  · intro V p l e R s m args below meth c H locs cells slots Q ls hx hb hown hts hwk hS hA st st' e0 S0 h g1 g2 hrel hc1 hc2 k
    obtain ⟨L, S, G⟩ := st
    match S, h with
    | .int n :: S, h =>
      have hn := (px_mem_inv h).1
      simp only [Bool.and_eq_true, Bool.not_eq_true', decide_eq_false_iff_not] at hn
      obtain ⟨hn1, hn2⟩ := hn
      have hn2 := Nat.le_of_ble_eq_true hn2
      cases (px_mem_inv h).2
      have e1 : e0 = .inl (t, n.toNatClampNeg, .inl (fun _ => 0)) := by
        have := List.append_cancel_left g1
        cases this
        rfl
      subst e1
      cases g2
      refine va_newa hx hb (hts _ hw) hty hwk.1 hrel.2.2 (px_img_D V G) hS hA (N' := n.toNatClampNeg) (a0 := (n.toNatClampNeg, .inl (fun _ => 0))) (fun cA => ?_) hn1 rfl ?_ hc1 hc2 hd (fun q cA H1 k1 k2 k3 k4 => ?_)
      · rcases hti with rfl | rfl <;> rfl
      · rcases hti with rfl | rfl
        · show n.toNatClampNeg * componentBytes .int ≤ 536870912
          have : componentBytes .int = 4 := rfl
          rw [this]; omega
        · show n.toNatClampNeg * componentBytes .boolean ≤ 536870912
          have : componentBytes .boolean = 1 := rfl
          rw [this]; omega
      · have e2 := px_newa_id hwk.1 (ht V) (fun c1 c2 q1 q2 => by rcases hti with rfl | rfl <;> exact Option.some.inj (q1.symm.trans q2)) k1
        subst e2
        exact k q H1 k2 k3 k4
theorem sx_newl {atype : ArrayType} (hd : decode Y.2.1 pc = .ok (.newarray atype, 2)) (hty : newarray.typeOf atype = .long) (hw : Cond.arrayClass (newarray.typeOf atype) ∈ px_good) : px_Snd d X Y pc px_newl 2 := by
  refine px_snd_new (fun st st' h => ?_) ?_
  · obtain ⟨L, S, G⟩ := st
    match S, h with
    | .int n :: S, h =>
      cases (px_mem_inv h).2
      exact ⟨rfl, _, _, rfl, rfl⟩
  · intro V p l e R s m args below meth c H locs cells slots Q ls hx hb hown hts hwk hS hA st st' e0 S0 h g1 g2 hrel hc1 hc2 k
    obtain ⟨L, S, G⟩ := st
    match S, h with
    | .int n :: S, h =>
      have hn := (px_mem_inv h).1
      simp only [Bool.and_eq_true, Bool.not_eq_true', decide_eq_false_iff_not] at hn
      obtain ⟨hn1, hn2⟩ := hn
      have hn2 := Nat.le_of_ble_eq_true hn2
      cases (px_mem_inv h).2
      have e1 : e0 = .inl (2, n.toNatClampNeg, .inr (.inl (fun _ => 0))) := by
        have := List.append_cancel_left g1
        cases this
        rfl
      subst e1
      cases g2
      refine va_newa hx hb (hts _ hw) hty hwk.1 hrel.2.2 (px_img_D V G) hS hA (N' := n.toNatClampNeg) (a0 := (n.toNatClampNeg, .inr (.inl (fun _ => 0)))) (fun cA => rfl) hn1 rfl ?_ hc1 hc2 hd (fun q cA H1 k1 k2 k3 k4 => ?_)
      · have : componentBytes .long = 8 := rfl
        rw [this]; omega
      · have e2 := px_newa_id (t := 2) hwk.1 rfl (fun c1 c2 q1 q2 => Option.some.inj (q1.symm.trans q2)) k1
        subst e2
        exact k q H1 k2 k3 k4
theorem sx_newr {t index : Nat} {C : String} (hd : decode Y.2.1 pc = .ok (.anewarray index, 3)) (ht : ∀ V, (px_tys V)[t]? = some (V.2.2.2.1 t, .object C)) (h1 : Cond.classLink Y.1.cls index C ∈ px_good) (h2 : ∀ V U H, px_wk V U H → va_AO C U) : px_Snd d X Y pc (px_newr t) 3 := by
  refine px_snd_new (fun st st' h => ?_) ?_
  · obtain ⟨L, S, G⟩ := st
    match S, h with
    | .int n :: S, h =>
      cases (px_mem_inv h).2
      exact ⟨rfl, _, _, rfl, rfl⟩
  · intro V p l e R s m args below meth c H locs cells slots Q ls hx hb hown hts hwk hS hA st st' e0 S0 h g1 g2 hrel hc1 hc2 k
    obtain ⟨L, S, G⟩ := st
    match S, h with
    | .int n :: S, h =>
      have hn := (px_mem_inv h).1
      simp only [Bool.and_eq_true, Bool.not_eq_true', decide_eq_false_iff_not] at hn
      obtain ⟨hn1, hn2⟩ := hn
      have hn2 := Nat.le_of_ble_eq_true hn2
      cases (px_mem_inv h).2
      have e1 : e0 = .inl (t, n.toNatClampNeg, .inr (.inr (.inr (.inr (fun _ => none))))) := by
        have := List.append_cancel_left g1
        cases this
        rfl
      subst e1
      cases g2
      refine va_newq hx hb hown (hts _ h1) (h2 V s s.heap hwk) hwk.1 hrel.2.2 (px_img_D V G) hS hA hn1 rfl (by omega) hc1 hc2 hd (fun q cA H1 k1 k2 k3 k4 => ?_)
      have e2 := px_newa_id hwk.1 (ht V) (fun c1 c2 q1 q2 => by
        obtain ⟨_, _, _, _, _, r1⟩ := q1
        obtain ⟨_, _, _, _, _, r2⟩ := q2
        exact Option.some.inj (r1.symm.trans r2)) k1
      subst e2
      exact k q H1 k2 k3 k4
theorem px_snd_ret {f : px_S → Option px_R} (hf : ∀ st r, f st = some r → r.2 = st.2.2)
    (hw : ∀ (V : px_V) (p : Program) (l : Launch) (e : Env) (R : Room) (s : State) (m : MethodId) (args : Array Value) (below : List Frame) (meth : Method) (c : Code) (H : Heap) (locs : List Loc) (cells slots : Nat) (ls : Array Slot) (r : px_R), p.tables.exec = Jvm.exec → c.code = Y.2.1 → meth.sig.returnType = Y.2.2.2 → meth.locks = false → (∀ q ∈ locs, px_A V q.base) → ∀ st, f st = some r → (∀ t : State, t.heap = H → s.WarmedH t.vm → px_Qc V r args s (.returned (r.1.map (px_tv V))) t) →
      W p l e R s m args below meth c H locs cells slots (MQ below (px_Qc V r) args s cells slots (px_A V)) (F0 m pc ls (st.2.1.map (px_tv V)))) : px_Snd d X Y pc (px_ret f) 1 := by
  refine ⟨fun _ k j st r h _ _ => ?_, fun V Γ hy _ _ k j st h _ _ => ?_⟩
  · have h : f st = some r := h
    rw [hf st r h]
    exact px_le.rf _
  · obtain ⟨p, l, e, R, s, m, args, below, meth, c, n0, z0, r, Q⟩ := Γ
    obtain ⟨hx, hb, hml, hown, hts, hr, hlk, -, hwk, hbs, hn0, hR, hc, hz, hQ⟩ := hy
    have h : f st = some r := h
    have e1 := hf st r h
    intro H locs ls cells slots h2 h3 h4 h5 h6
    refine W.widen (k := R.cells) (n := R.slots) (by rw [e1] at hc; omega) (by rw [e1] at hz; omega) ?_
    intro T hT Xs
    obtain ⟨t, a1, b1⟩ := hw V p l e R s m args below meth c H locs R.cells R.slots ls r hx hb hr hlk h3.2.2 st h (fun t ht _ => ⟨rfl, by rw [ht, e1]; exact h2, h3.F ht⟩) T hT Xs
    exact ⟨t, a1, hQ t b1⟩
theorem sx_reti (hd : decode Y.2.1 pc = .ok (.ireturn, 1)) (hY : Y.2.2.2 = some .int) : px_Snd d X Y pc px_reti 1 := by
  refine px_snd_ret (fun st r h => ?_) ?_
  · obtain ⟨L, S, G⟩ := st
    match S, h with
    | [.int v], h => cases h; rfl
  · intro V p l e R s m args below meth c H locs cells slots ls r hx hb hr hlk hA st h hq
    obtain ⟨L, S, G⟩ := st
    match S, h with
    | [.int v], h =>
      cases h
      exact W.iret hx hb (hr.trans hY) hq hA hd hlk
theorem sx_retz (hd : decode Y.2.1 pc = .ok (.ireturn, 1)) (hY : Y.2.2.2 = some .boolean) : px_Snd d X Y pc px_retz 1 := by
  refine px_snd_ret (fun st r h => ?_) ?_
  · obtain ⟨L, S, G⟩ := st
    match S, h with
    | [.int v], h =>
      dsimp only at h
      cases hb : (decide (v = 0) || decide (v = 1)) with
      | false => rw [hb] at h; cases h
      | true => rw [hb] at h; cases h; rfl
  · intro V p l e R s m args below meth c H locs cells slots ls r hx hb hr hlk hA st h hq
    obtain ⟨L, S, G⟩ := st
    match S, h with
    | [.int v], h =>
      dsimp only at h
      cases hb2 : (decide (v = 0) || decide (v = 1)) with
      | false => rw [hb2] at h; cases h
      | true =>
        rw [hb2] at h
        cases h
        exact W.zret hx hb (hr.trans hY) (by rcases px_z01 hb2 with rfl | rfl <;> rfl) hq hA hd hlk
theorem sx_retl (hd : decode Y.2.1 pc = .ok (.lreturn, 1)) (hY : Y.2.2.2 = some .long) : px_Snd d X Y pc px_retl 1 := by
  refine px_snd_ret (fun st r h => ?_) ?_
  · obtain ⟨L, S, G⟩ := st
    match S, h with
    | [.long v], h => cases h; rfl
  · intro V p l e R s m args below meth c H locs cells slots ls r hx hb hr hlk hA st h hq
    obtain ⟨L, S, G⟩ := st
    match S, h with
    | [.long v], h =>
      cases h
      exact W.lret hx hb (hr.trans hY) hq hA hd hlk
theorem sx_reta {C : String} (hd : decode Y.2.1 pc = .ok (.areturn, 1)) (hY : Y.2.2.2 = some (.object C)) : px_Snd d X Y pc px_reta 1 := by
  refine px_snd_ret (fun st r h => ?_) ?_
  · obtain ⟨L, S, G⟩ := st
    match S, h with
    | [.ref v], h => cases h; rfl
    | [.null], h => cases h; rfl
  · intro V p l e R s m args below meth c H locs cells slots ls r hx hb hr hlk hA st h hq
    obtain ⟨L, S, G⟩ := st
    match S, h with
    | [.ref v], h =>
      cases h
      exact W.aret hx hb (hr.trans hY) (Or.inl ⟨C, rfl⟩) (Or.inr ⟨_, rfl⟩) hq hA hd hlk
    | [.null], h =>
      cases h
      exact W.aret hx hb (hr.trans hY) (Or.inl ⟨C, rfl⟩) (Or.inl rfl) hq hA hd hlk
theorem sx_retv (hd : decode Y.2.1 pc = .ok (.return_, 1)) (hY : Y.2.2.2 = none) : px_Snd d X Y pc px_retv 1 := by
  refine px_snd_ret (fun st r h => ?_) ?_
  · obtain ⟨L, S, G⟩ := st
    match S, h with
    | [], h => cases h; rfl
  · intro V p l e R s m args below meth c H locs cells slots ls r hx hb hr hlk hA st h hq
    obtain ⟨L, S, G⟩ := st
    match S, h with
    | [], h =>
      cases h
      exact W.vret hx hb (hr.trans hY) hq hA hd hlk
theorem sx_pop {index : Nat} (hd : decode Y.2.1 pc = .ok (.invokespecial index, 3)) (h1 : Cond.methodLink Y.1.cls index Lib.objectInit ∈ px_good) (h2 : Cond.instanceMethod Lib.objectInit ∈ px_good) (h3 : Cond.code Lib.objectInit ⟨#[0xb1]⟩ 1 none ∈ px_good) : px_Snd d X Y pc px_pop 3 := by
  refine px_snd_stk (fun st st' h => ?_) ?_
  · obtain ⟨L, S, G⟩ := st
    match S, h with
    | .ref a :: S, h => cases (px_mem_inv h).2; exact ⟨rfl, rfl⟩
  · intro V p l e R s m args below meth c H locs cells slots Q ls hx hb hown hts hwk hS hml hR hcc st st' h hrel hlv k
    obtain ⟨L, S, G⟩ := st
    match S, h with
    | .ref a :: S, h =>
      have hn := Nat.le_of_ble_eq_true (px_mem_inv h).1
      cases (px_mem_inv h).2
      exact W.objInit hx hb hown (hts _ h1) (hts _ h2) (hts _ h3) (g := F0 m pc ls (.ref (px_ad V a) :: S.map (px_tv V))) rfl hml.symm rfl hd (by omega) (by show 2 * 0 + _ + 12 ≤ _; rw [px_cat_tv]; omega) k
end S8
