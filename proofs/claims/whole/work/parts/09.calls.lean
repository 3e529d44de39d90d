/-! PART 09: sound: calls; a method; the pure machine's answer is the machine's -/
section S9
variable {d : Nat} {X : px_X} {Y : px_Y} {pc : Nat}
theorem px_Pc_blind (V : px_V) (as : List Value) (G : px_H) : FrameBlind (px_Pc V as G) := fun a U g mk h => ⟨h.1, h.2.1, px_wk.same rfl h.2.2.1, h.2.2.2⟩
theorem px_goodIn {ws0 : List Cond} {w0 : Cond} (h : ∀ w ∈ ws0, w ∈ px_good) (h0 : w0 ∈ px_good) : GoodIn px_good (ws0 ++ (w0 :: px_good)) := by
  have key : ∀ w ∈ px_good, w ∈ px_good ∧ ((w.onTables && w.keeps) = true ∨ ∃ ty, w = .arrayClass ty) := fun w hw => ⟨hw, good_of_word (List.mem_filter.mp hw).2⟩
  intro w hw
  rcases List.mem_append.mp hw with hw | hw
  · exact key w (h w hw)
  · rcases List.mem_cons.mp hw with rfl | hw
    · exact key _ h0
    · exact key w hw
theorem px_heapEq {V : px_V} {G : px_H} {s : State} {H : Heap} {locs : List Loc} {cells n0 : Nat} (hrel : px_rel V G H) (hS : va_S (px_A V) s.heap H locs) (hbs : s.heap.size + 13 = V.1 + n0) (hn0 : 13 ≤ n0) (h5 : cells + n0 = G.length) (hs : H.size ≤ s.heap.size + cells) : H.size + 13 = V.1 + G.length := by
  have hlow : V.1 + (G.length - 13) ≤ H.size := by
    by_cases h : G.length = 13
    · have := hS.1
      omega
    · have hk : G.length - 1 < G.length := by have := hrel.2.1; omega
      have h1 := px_img_get (V := V) (G := G) (k := G.length - 1) (by have := hrel.2.1; omega) (List.getElem?_eq_getElem hk)
      have h2 := (hrel.2.2 _ _ h1).lt
      have h3 : px_ad V (G.length - 1) = V.1 + (G.length - 1 - 13) := by unfold px_ad; rw [if_neg (by have := hrel.2.1; omega)]
      dsimp only at h2
      rw [h3] at h2
      have := hrel.2.1
      omega
  have := hrel.2.1
  omega
/-- a call: the arguments, the rest; what the kit's row of that call asks -/
theorem px_snd_call {y : Nat} {f : px_S → Option (List Value × List Value × Bool)} {Y' : px_Y} (hY : px_inf[y]? = some Y')
    (hw : ∀ (V : px_V) (p : Program) (l : Launch) (e : Env) (R : Room) (s : State) (m : MethodId) (args : Array Value) (below : List Frame) (meth : Method) (c : Code) (H : Heap) (locs : List Loc) (cells slots : Nat) (ls : Array Slot) (r : px_R) (as rest : List Value), p.tables.exec = Jvm.exec → c.code = Y.2.1 → c.maxLocals = Y.2.2.1 → s.vm.findClass Y.1.cls = some m.cls → (∀ w ∈ px_good, w.before args s = true) → px_wk V s s.heap → ls.size = Y.2.2.1 → d + 9 ≤ R.frames ∧ 64 * (d + 9) ≤ R.locals → ∀ st, f st = some (as, rest, true) → px_rel V st.2.2 H → px_Met V l d Y' as st.2.2 r → cells + (r.2.length - st.2.2.length) ≤ R.cells ∧ slots + (px_sz r.2 - px_sz st.2.2) ≤ R.slots →
      (∀ U : State, U.heap = H → s.WarmedH U.vm → px_Pc V as st.2.2 (as.map (px_tv V)).toArray U) → va_Run p l e R s m args below meth c H locs cells slots (r.2.length - st.2.2.length) (px_sz r.2 - px_sz st.2.2) (F0 m pc ls (st.2.1.map (px_tv V))) (rest.map (px_tv V)) (px_Qc V r (as.map (px_tv V)).toArray) (px_A V)) : px_Snd d X Y pc (px_call X y f) 3 := by
  have key : ∀ (k : px_S → Option px_R) (j : px_J) (st : px_S) (r : px_R), (px_call X y f).1 k j st = some r → ∃ as rest r1, f st = some (as, rest, true) ∧ X y as st.2.2 = some r1 ∧ k (st.1, r1.1.toList ++ rest, r1.2) = some r := by
    intro k j st r h
    unfold px_call at h
    dsimp only at h
    cases hf : f st with
    | none => rw [hf] at h; cases h
    | some q =>
      obtain ⟨as, rest, b⟩ := q
      rw [hf] at h
      cases b with
      | false => cases h
      | true =>
        dsimp only [cond_true] at h
        cases hX : X y as st.2.2 with
        | none => rw [hX] at h; cases h
        | some o =>
          obtain ⟨v, G'⟩ := o
          rw [hX] at h
          refine ⟨as, rest, (v, G'), rfl, hX, ?_⟩
          cases v <;> exact h
  refine ⟨fun hXG k j st r h hk _ => ?_, fun V Γ hy hXG hXM k j st h hk _ => ?_⟩
  · obtain ⟨as, rest, r1, g1, g2, g3⟩ := key k j st r h
    exact (hXG y as st.2.2 r1 g2).tr (hk _ g3)
  · obtain ⟨as, rest, r1, g1, g2, g3⟩ := key k j st _ h
    have hle := hXG y as st.2.2 r1 g2
    obtain ⟨hle2, h1⟩ := hk _ g3
    obtain ⟨p, l, e, R, s, m, args, below, meth, c, n0, z0, r, Q⟩ := Γ
    have hMet := hXM y as st.2.2 r1 Y' g2 hY
    obtain ⟨hx, hb, hml, hown, hts, -, -, -, hwk, hbs, hn0, hR, hc, hz, -⟩ := hy
    intro H locs ls cells slots h2 h3 h4 h5 h6
    have hle2 : px_le r1.2 r.2 := hle2
    refine px_sized fun hs => ?_
    have hH := px_heapEq h2 h3 hbs hn0 h5 hs
    intro T hT Xs
    have hPc : ∀ U : State, U.heap = H → s.WarmedH U.vm → px_Pc V as st.2.2 (as.map (px_tv V)).toArray U := fun U hU hW => ⟨rfl, by rw [hU]; exact h2, by rw [hU]; exact (hwk.kept h3.2.1).moved hW, by rw [hU]; exact hH⟩
    obtain ⟨v, st₀, t, T', L, k0, X', kL, k1, k2, ⟨k3, k4, k5⟩, kst⟩ := hw V p l e R s m args below meth c H locs cells slots ls r1 as rest hx hb hml hown hts hwk h4.1 hR st g1 h2 hMet ⟨by have := hle.1; have := hle2.1; omega, by have := hle.2; have := hle2.2; omega⟩ hPc T hT Xs
    cases k3
    have kS : va_S (px_A V) s.heap T'.heap (locs ++ L) := ⟨Nat.le_trans h3.1 (by rw [k1, ← k0]; exact k5.1), fun q q1 q2 => by
      rw [k1, k5.2 q (by rw [k0]; exact Nat.lt_of_lt_of_le q1 h3.1) q2, k0]
      exact h3.2.1 q q1 q2, fun q hq => by
      rcases List.mem_append.mp hq with q1 | q1
      · exact h3.2.2 q q1
      · exact kL q q1⟩
    obtain ⟨t2, a1, b1⟩ := h1 T'.heap (locs ++ L) ls (cells + (r1.2.length - st.2.2.length)) (slots + (px_sz r1.2 - px_sz st.2.2)) (by rw [k1]; exact k4) kS h4 (by show _ = r1.2.length; have := hle.1; omega) (by show _ = px_sz r1.2; have := hle.2; omega) T' rfl X'
    refine ⟨t2, kst t2 ?_, b1⟩
    have e9 : ((r1.1.toList ++ rest).map (px_tv V)) = (r1.1.map (px_tv V)).toList ++ rest.map (px_tv V) := by
      cases r1.1 <;> simp
    dsimp only at a1
    rw [e9] at a1
    exact a1
theorem px_stk {V : px_V} {S : List Value} {n : Nat} {a : Nat} {As : List Value} (h : (S.take n).reverse = .ref a :: As) : S.map (px_tv V) = (As.map (px_tv V)).reverse ++ .ref (px_ad V a) :: (S.drop n).map (px_tv V) := by
  have h1 : S.take n = As.reverse ++ [.ref a] := by
    have := congrArg List.reverse h
    rw [List.reverse_reverse, List.reverse_cons] at this
    exact this
  have h2 : S = (As.reverse ++ [.ref a]) ++ S.drop n := by rw [← h1]; exact (List.take_append_drop n S).symm
  rw [← List.map_reverse]
  conv => lhs; rw [h2]
  simp [px_tv]
theorem sx_cV {y n ci index : Nat} {Y' : px_Y} {q : vw_C} (hY : px_inf[y]? = some Y') (hd : decode Y.2.1 pc = .ok (.invokevirtual index, 3)) (hc : px_cl[ci]? = some q) (hq : Y'.1.cls = q.1)
    (hw : ∀ w ∈ ([.methodLink Y.1.cls index Y'.1, .instanceMethod Y'.1, .selects q.1 Y'.1 Y'.1, .initialized q.1] : List Cond), w ∈ px_good) (hcode : Cond.code Y'.1 Y'.2.1 Y'.2.2.1 Y'.2.2.2 ∈ px_good) (hmh : Y'.1.cls ≠ "java/lang/invoke/MethodHandle" ∧ Y'.1.cls ≠ "java/lang/invoke/VarHandle" ∧ (parseMethodDescriptor Y'.1.desc).map (fun d => d.parameters.length) = some (n - 1)) (hL : Y'.2.2.1 ≤ 45) : px_Snd d X Y pc (px_cV X y n ci) 3 := by
  refine px_snd_call hY ?_
  intro V p l e R s m args below meth c H locs cells slots ls r as rest hx hb hml hown hts hwk hls hR st h hrel hM hcs hPc
  try dsimp only at h
  split at h
  · next a As hS =>
    split at h
    · next c1 fs hG =>
      have h9 := Option.some.inj h
      have e1 : _ = as := congrArg (fun q => q.1) h9
      have e2 : _ = rest := congrArg (fun q => q.2.1) h9
      have e3 : _ = true := congrArg (fun q => q.2.2) h9
      dsimp only at e1 e2 e3
      simp only [Bool.and_eq_true] at e3
      obtain ⟨b1, ⟨b2, b3⟩, b4⟩ := e3
      have f1 := Nat.eq_of_beq_eq_true b1
      have f2 : c1 = ci := Nat.eq_of_beq_eq_true b2
      have f3 : 13 ≤ a := Nat.le_of_ble_eq_true b3
      have f4 := Nat.le_of_ble_eq_true b4
      subst f2
      subst e1
      subst e2
      exact va_runV (As := As.map (px_tv V)) (rest := (st.2.1.drop n).map (px_tv V)) (C := q.1) ⟨hx, hb, hml, hown, hts⟩ hM (cwV (n - 1) hts (px_goodIn hw hcode) rfl rfl rfl ⟨hq, hmh⟩ ⟨by show d + 8 + 1 ≤ R.frames; omega, by show 8 + (Y'.2.2.1 + 11) + 64 * (d + 8) ≤ R.locals; omega⟩) ⟨px_Pc_blind V _ _, va_recv hwk.1 hrel.2.2 hc (px_img_get f3 hG), hPc⟩ rfl (by rw [List.length_map]; omega) hls (px_stk hS) (by show 2 * 0 + _ ≤ 8; rw [px_cat_tv]; omega) hd hcs
    · cases h
  · cases h
theorem sx_cS {y n index : Nat} {Y' : px_Y} (hY : px_inf[y]? = some Y') (hd : decode Y.2.1 pc = .ok (.invokestatic index, 3)) (hq : Y'.1.cls = Y.1.cls)
    (hw : ∀ w ∈ ([.methodLink Y.1.cls index Y'.1, .static Y'.1, .initialized Y.1.cls] : List Cond), w ∈ px_good) (hcode : Cond.code Y'.1 Y'.2.1 Y'.2.2.1 Y'.2.2.2 ∈ px_good) (hmh : Y'.1.cls ≠ "java/lang/invoke/MethodHandle" ∧ Y'.1.cls ≠ "java/lang/invoke/VarHandle" ∧ (parseMethodDescriptor Y'.1.desc).map (fun d => d.parameters.length) = some n) (hL : Y'.2.2.1 ≤ 45) : px_Snd d X Y pc (px_cS X y n) 3 := by
  refine px_snd_call hY ?_
  intro V p l e R s m args below meth c H locs cells slots ls r as rest hx hb hml hown hts hwk hls hR st h hrel hM hcs hPc
  have h9 := Option.some.inj h
  have e1 : _ = as := congrArg (fun q => q.1) h9
  have e2 : _ = rest := congrArg (fun q => q.2.1) h9
  have e3 : _ = true := congrArg (fun q => q.2.2) h9
  dsimp only at e1 e2 e3
  simp only [Bool.and_eq_true] at e3
  obtain ⟨b1, b4⟩ := e3
  have f1 := Nat.eq_of_beq_eq_true b1
  have f4 := Nat.le_of_ble_eq_true b4
  subst e1
  subst e2
  refine va_runS (As := (st.2.1.take n).reverse.map (px_tv V)) (rest := (st.2.1.drop n).map (px_tv V)) ⟨hx, hb, hml, hown, hts⟩ hM (cwS n hts (px_goodIn hw hcode) rfl rfl rfl ⟨hq, hmh⟩ ⟨by show d + 8 + 1 ≤ R.frames; omega, by show 8 + (Y'.2.2.1 + 11) + 64 * (d + 8) ≤ R.locals; omega⟩) ⟨px_Pc_blind V _ _, hPc⟩ rfl (by rw [List.length_map]; exact f1) hls ?_ (by show 2 * 0 + _ ≤ 8; rw [px_cat_tv]; omega) hd hcs
  show st.2.1.map (px_tv V) = _
  rw [← List.map_reverse, List.reverse_reverse, ← List.map_append, List.take_append_drop]
theorem sx_cI {y n index : Nat} {Y' : px_Y} (hY : px_inf[y]? = some Y') (hd : decode Y.2.1 pc = .ok (.invokespecial index, 3)) (h1 : Cond.methodLink Y.1.cls index Y'.1 ∈ px_good) (h2 : Cond.instanceMethod Y'.1 ∈ px_good) (h3 : Cond.initialized Y'.1.cls ∈ px_good) (h4 : Y'.1.name = "<init>") (h5 : Y'.2.2.2 = none)
    (hcode : Cond.code Y'.1 Y'.2.1 Y'.2.2.1 Y'.2.2.2 ∈ px_good) (hmh : Y'.1.cls ≠ "java/lang/invoke/MethodHandle" ∧ Y'.1.cls ≠ "java/lang/invoke/VarHandle" ∧ (parseMethodDescriptor Y'.1.desc).map (fun d => d.parameters.length) = some (n - 1)) (hL : Y'.2.2.1 ≤ 45) : px_Snd d X Y pc (px_cI X y n) 3 := by
  refine px_snd_call hY ?_
  intro V p l e R s m args below meth c H locs cells slots ls r as rest hx hb hml hown hts hwk hls hR st h hrel hM hcs hPc
  try dsimp only at h
  split at h
  · next a As hS =>
    have h9 := Option.some.inj h
    have e1 : _ = as := congrArg (fun q => q.1) h9
    have e2 : _ = rest := congrArg (fun q => q.2.1) h9
    have e3 : _ = true := congrArg (fun q => q.2.2) h9
    dsimp only at e1 e2 e3
    simp only [Bool.and_eq_true] at e3
    obtain ⟨b1, b4⟩ := e3
    have f1 := Nat.eq_of_beq_eq_true b1
    have f4 := Nat.le_of_ble_eq_true b4
    subst e1
    subst e2
    obtain ⟨nm', by', nl', rt'⟩ := Y'
    dsimp only at h5
    subst h5
    exact va_runI (As := As.map (px_tv V)) (rest := (st.2.1.drop n).map (px_tv V)) ⟨hx, hb, hml, hown, hts⟩ hM (cwI (n - 1) hts (fun w hw => px_goodIn (ws0 := []) (fun _ q => by cases q) hcode w hw) rfl rfl rfl (hts _ h3) (hts _ h1) (hts _ h2) h4 hmh ⟨by show d + 8 + 1 ≤ R.frames; omega, by show 8 + (nl' + 11) + 64 * (d + 8) ≤ R.locals; dsimp only at hL; omega⟩) ⟨px_Pc_blind V _ _, hPc⟩ rfl (by rw [List.length_map]; omega) hls (px_stk hS) (by show 2 * 0 + _ ≤ 8; rw [px_cat_tv]; omega) hd hcs
  · cases h
theorem sx_cIN {y n index : Nat} {host : String} {Y' : px_Y} (hY : px_inf[y]? = some Y') (hd : decode Y.2.1 pc = .ok (.invokespecial index, 3)) (h1 : (Y.1.cls, index, Y'.1, host) ∈ px_nest) (h2 : Cond.instanceMethod Y'.1 ∈ px_good) (h3 : Cond.initialized Y'.1.cls ∈ px_good) (h4 : Y'.1.name = "<init>") (h5 : Y'.2.2.2 = none)
    (hcode : Cond.code Y'.1 Y'.2.1 Y'.2.2.1 Y'.2.2.2 ∈ px_good) (hmh : Y'.1.cls ≠ "java/lang/invoke/MethodHandle" ∧ Y'.1.cls ≠ "java/lang/invoke/VarHandle" ∧ (parseMethodDescriptor Y'.1.desc).map (fun d => d.parameters.length) = some (n - 1)) (hL : Y'.2.2.1 ≤ 45) : px_Snd d X Y pc (px_cI X y n) 3 := by
  refine px_snd_call hY ?_
  intro V p l e R s m args below meth c H locs cells slots ls r as rest hx hb hml hown hts hwk hls hR st h hrel hM hcs hPc
  try dsimp only at h
  split at h
  · next a As hS =>
    have h9 := Option.some.inj h
    have e1 : _ = as := congrArg (fun q => q.1) h9
    have e2 : _ = rest := congrArg (fun q => q.2.1) h9
    have e3 : _ = true := congrArg (fun q => q.2.2) h9
    dsimp only at e1 e2 e3
    simp only [Bool.and_eq_true] at e3
    obtain ⟨b1, b4⟩ := e3
    have f1 := Nat.eq_of_beq_eq_true b1
    have f4 := Nat.le_of_ble_eq_true b4
    subst e1
    subst e2
    obtain ⟨nm', by', nl', rt'⟩ := Y'
    dsimp only at h5
    subst h5
    exact va_runIN (As := As.map (px_tv V)) (rest := (st.2.1.drop n).map (px_tv V)) ⟨hx, hb, hml, hown, hts⟩ hM ⟨va_cnB (n - 1) hts (fun w hw => px_goodIn (ws0 := []) (fun _ q => by cases q) hcode w hw) rfl rfl rfl (hwk.2.2.2.2.2.2.2.2.2.1 _ h1) (hts _ h3) hmh ⟨by show d + 8 + 1 ≤ R.frames; omega, by show 8 + (nl' + 11) + 64 * (d + 8) ≤ R.locals; dsimp only at hL; omega⟩, h4, hts _ h2⟩ ⟨px_Pc_blind V _ _, hPc⟩ rfl (by rw [List.length_map]; omega) hls (px_stk hS) (by show 2 * 0 + _ ≤ 8; rw [px_cat_tv]; omega) hd hcs
  · cases h
end S9
