/-! PART 07: sound: writes, new cells, ends, calls -/
section S7
variable {d : Nat} {X : px_X} {Y : px_Y} {pc : Nat}
theorem px_rel_set {V : px_V} {G : px_H} {H H1 : Heap} {a : Nat} {e' : va_E} (ha : 13 ≤ a) (h : px_rel V G H) (h1 : va_P V.2.2.1 px_cl ((px_img V G).set (a - 13) (px_ad V a, px_te V e')) H1) : px_rel V (G.set a e') H1 :=
  ⟨fun k hk => by rw [List.getElem?_set_ne (by omega)]; exact h.1 k hk, by rw [List.length_set]; exact h.2.1, by rw [px_img_set ha]; exact h1⟩
/-- an instruction that writes into one cell -/
theorem px_snd_put {len : Nat} {f : px_S → Option (Bool × px_S)} (hf : ∀ st st', f st = some (true, st') → st'.1 = st.1 ∧ ∃ a e e', st.2.2[a]? = some e ∧ px_es e' = px_es e ∧ st'.2.2 = st.2.2.set a e')
    (hw : ∀ (V : px_V) (p : Program) (l : Launch) (e : Env) (R : Room) (s : State) (m : MethodId) (args : Array Value) (below : List Frame) (meth : Method) (c : Code) (H : Heap) (locs : List Loc) (cells slots : Nat) (Q : State → Prop) (ls : Array Slot), p.tables.exec = Jvm.exec → c.code = Y.2.1 → s.vm.findClass Y.1.cls = some m.cls → (∀ w ∈ px_good, w.before args s = true) → meth.name = Y.1.name → px_wk V s s.heap → va_S (px_A V) s.heap H locs → ∀ st st', f st = some (true, st') → px_rel V st.2.2 H →
      (∀ H1 locs1, px_rel V st'.2.2 H1 → va_S (px_A V) s.heap H1 locs1 → W p l e R s m args below meth c H1 locs1 cells slots Q (F0 m (pc + len) ls (st'.2.1.map (px_tv V)))) → W p l e R s m args below meth c H locs cells slots Q (F0 m pc ls (st.2.1.map (px_tv V)))) : px_Snd d X Y pc (px_mem f) len := by
  refine px_snd_mem (fun st st' h => ?_) (fun V Γ hy st st' h hle h1 => ?_)
  · obtain ⟨-, a, e, e', g1, g2, g3⟩ := hf st st' h
    rw [g3]
    exact px_le_set g1 g2
  · obtain ⟨h0, a, e0, e', g1, g2, g3⟩ := hf st st' h
    obtain ⟨p, l, e, R, s, m, args, below, meth, c, n0, z0, r, Q⟩ := Γ
    obtain ⟨hx, hb, hml, hown, hts, -, -, hnm, hwk, -⟩ := hy
    intro H locs ls cells slots h2 h3 h4 h5 h6
    exact hw V p l e R s m args below meth c H locs cells slots Q ls hx hb hown hts hnm hwk h3 st st' h h2 (fun H1 locs1 k1 k2 => h1 H1 locs1 ls cells slots k1 k2 (by rw [h0]; exact h4) (by rw [g3, List.length_set]; exact h5) (by rw [g3, px_sz_set _ _ _ _ g1 g2]; exact h6))
theorem sx_puti {ci k index N : Nat} {C : String} {T : u_T} {ty0 : Nat → FieldType} (hd : decode Y.2.1 pc = .ok (.putfield index, 3)) (hc : px_cl[ci]? = some (C, T, N)) (hin : ∀ w ∈ u_ws C T N, w ∈ px_good) (hty : ∀ k, k < N → parseFieldDescriptor (T k).2.2.1 = some (ty0 k)) (hnm : ∀ a, a < N → ∀ b, b < N → a ≠ b → (T a).2.1 ≠ (T b).2.1) (hk : k < N) (hl : Cond.fieldLink Y.1.cls index (T k).1 (T k).2.1 (T k).2.2.1 ∈ px_good) (hi : ty0 k = .int) (hfin : (T k).2.2.2 = false ∨ ((T k).2.2.2 = true ∧ Y.1.name = "<init>" ∧ (T k).1 = Y.1.cls)) : px_Snd d X Y pc (px_puti ci k) 3 := by
  refine px_snd_put (fun st st' h => ?_) ?_
  · obtain ⟨L, S, G⟩ := st
    match S, h with
    | .int x :: .ref a :: S, h =>
      dsimp only at h
      split at h
      · next c1 fs hG =>
        cases (px_mem_inv h).2
        exact ⟨rfl, a, _, _, hG, by simp [px_es], rfl⟩
      · cases h
  · intro V p l e R s m args below meth c H locs cells slots Q ls hx hb hown hts hnm0 hwk hS st st' h hrel h1
    obtain ⟨L, S, G⟩ := st
    match S, h with
    | .int x :: .ref a :: S, h =>
      dsimp only at h
      split at h
      · next c1 fs hG =>
        have hn := (px_mem_inv h).1
        simp only [Bool.and_eq_true] at hn
        obtain ⟨⟨b1, b2⟩, b3⟩ := hn
        have e1 : c1 = ci := Nat.eq_of_beq_eq_true b1
        have e2 : 13 ≤ a := Nat.le_of_ble_eq_true b2
        have e3 : k < fs.length := Nat.le_of_ble_eq_true b3
        subst e1
        cases (px_mem_inv h).2
        rcases hfin with hf | ⟨hf, hf2, hf3⟩
        · refine va_put hx hb hts hin ty0 hty hnm hown hwk.1 hrel.2.2 (px_img_D V G) hS (a - 13) (px_img_get e2 hG) hc k hk (hts _ hl) (fun _ q => q) hf (v := .int x) ((hty k hk).trans (by rw [hi])) rfl rfl (by rw [List.length_map]; exact e3) hd (fun H1 locs1 k1 _ k3 => h1 H1 locs1 (px_rel_set e2 hrel ?_) k3)
          show va_P _ _ ((px_img V G).set (a - 13) (px_ad V a, .inr (c1, (fs.set k (.int x)).map (px_tv V)))) H1
          rw [List.map_set]
          exact k1
        · refine va_putF hx hb hts hin ty0 hty hnm hown hwk.1 hrel.2.2 (px_img_D V G) hS (a - 13) (px_img_get e2 hG) hc k hk (hts _ hl) (fun _ q => q) hf (by rw [hnm0]; exact hf2) hf3 (v := .int x) ((hty k hk).trans (by rw [hi])) rfl rfl (by rw [List.length_map]; exact e3) hd (fun H1 locs1 k1 _ k3 => h1 H1 locs1 (px_rel_set e2 hrel ?_) k3)
          show va_P _ _ ((px_img V G).set (a - 13) (px_ad V a, .inr (c1, (fs.set k (.int x)).map (px_tv V)))) H1
          rw [List.map_set]
          exact k1
      · cases h
theorem px_z01 {x : Int32} (h : (decide (x = 0) || decide (x = 1)) = true) : x = 0 ∨ x = 1 := by simpa using h
theorem sx_putz {ci k index N : Nat} {C : String} {T : u_T} {ty0 : Nat → FieldType} (hd : decode Y.2.1 pc = .ok (.putfield index, 3)) (hc : px_cl[ci]? = some (C, T, N)) (hin : ∀ w ∈ u_ws C T N, w ∈ px_good) (hty : ∀ k, k < N → parseFieldDescriptor (T k).2.2.1 = some (ty0 k)) (hnm : ∀ a, a < N → ∀ b, b < N → a ≠ b → (T a).2.1 ≠ (T b).2.1) (hk : k < N) (hl : Cond.fieldLink Y.1.cls index (T k).1 (T k).2.1 (T k).2.2.1 ∈ px_good) (hi : ty0 k = .boolean) (hfin : (T k).2.2.2 = false) : px_Snd d X Y pc (px_putz ci k) 3 := by
  refine px_snd_put (fun st st' h => ?_) ?_
  · obtain ⟨L, S, G⟩ := st
    match S, h with
    | .int x :: .ref a :: S, h =>
      dsimp only at h
      split at h
      · next c1 fs hG =>
        cases (px_mem_inv h).2
        exact ⟨rfl, a, _, _, hG, by simp [px_es], rfl⟩
      · cases h
  · intro V p l e R s m args below meth c H locs cells slots Q ls hx hb hown hts hnm0 hwk hS st st' h hrel h1
    obtain ⟨L, S, G⟩ := st
    match S, h with
    | .int x :: .ref a :: S, h =>
      dsimp only at h
      split at h
      · next c1 fs hG =>
        have hn := (px_mem_inv h).1
        rw [Bool.and_eq_true] at hn
        have h01 := px_z01 hn.2
        have hn2 := hn.1
        simp only [Bool.and_eq_true] at hn2
        obtain ⟨⟨b1, b2⟩, b3⟩ := hn2
        have e1 : c1 = ci := Nat.eq_of_beq_eq_true b1
        have e2 : 13 ≤ a := Nat.le_of_ble_eq_true b2
        have e3 : k < fs.length := Nat.le_of_ble_eq_true b3
        subst e1
        cases (px_mem_inv h).2
        refine va_put hx hb hts hin ty0 hty hnm hown hwk.1 hrel.2.2 (px_img_D V G) hS (a - 13) (px_img_get e2 hG) hc k hk (hts _ hl) (fun _ q => q) hfin (v := .int x) ((hty k hk).trans (by rw [hi])) (by rcases h01 with rfl | rfl <;> rfl) (by rcases h01 with rfl | rfl <;> rfl) (by rw [List.length_map]; exact e3) hd (fun H1 locs1 k1 _ k3 => h1 H1 locs1 (px_rel_set e2 hrel ?_) k3)
        show va_P _ _ ((px_img V G).set (a - 13) (px_ad V a, .inr (c1, (fs.set k (.int x)).map (px_tv V)))) H1
        rw [List.map_set]
        exact k1
      · cases h
theorem sx_putr {ci k index N : Nat} {C : String} {T : u_T} {ty0 : Nat → FieldType} (hd : decode Y.2.1 pc = .ok (.putfield index, 3)) (hc : px_cl[ci]? = some (C, T, N)) (hin : ∀ w ∈ u_ws C T N, w ∈ px_good) (hty : ∀ k, k < N → parseFieldDescriptor (T k).2.2.1 = some (ty0 k)) (hnm : ∀ a, a < N → ∀ b, b < N → a ≠ b → (T a).2.1 ≠ (T b).2.1) (hk : k < N) (hl : Cond.fieldLink Y.1.cls index (T k).1 (T k).2.1 (T k).2.2.1 ∈ px_good) (hi : (∃ C', ty0 k = .object C') ∨ ∃ t', ty0 k = .array t') (hfin : (T k).2.2.2 = false ∨ ((T k).2.2.2 = true ∧ Y.1.name = "<init>" ∧ (T k).1 = Y.1.cls)) : px_Snd d X Y pc (px_putr ci k) 3 := by
  refine px_snd_put (fun st st' h => ?_) ?_
  · obtain ⟨L, S, G⟩ := st
    match S, h with
    | .ref x :: .ref a :: S, h =>
      dsimp only at h
      split at h
      · next c1 fs hG =>
        cases (px_mem_inv h).2
        exact ⟨rfl, a, _, _, hG, by simp [px_es], rfl⟩
      · cases h
  · intro V p l e R s m args below meth c H locs cells slots Q ls hx hb hown hts hnm0 hwk hS st st' h hrel h1
    obtain ⟨L, S, G⟩ := st
    match S, h with
    | .ref x :: .ref a :: S, h =>
      dsimp only at h
      split at h
      · next c1 fs hG =>
        have hn := (px_mem_inv h).1
        simp only [Bool.and_eq_true] at hn
        obtain ⟨⟨b1, b2⟩, b3⟩ := hn
        have e1 : c1 = ci := Nat.eq_of_beq_eq_true b1
        have e2 : 13 ≤ a := Nat.le_of_ble_eq_true b2
        have e3 : k < fs.length := Nat.le_of_ble_eq_true b3
        subst e1
        cases (px_mem_inv h).2
        have hn1 : narrow (ty0 k) (.ref (px_ad V x)) = .ref (px_ad V x) := by rcases hi with ⟨q, e⟩ | ⟨q, e⟩ <;> rw [e] <;> rfl
        have hn2 : fits (ty0 k) (.ref (px_ad V x)) = true := by rcases hi with ⟨q, e⟩ | ⟨q, e⟩ <;> rw [e] <;> rfl
        rcases hfin with hf | ⟨hf, hf2, hf3⟩
        · refine va_put hx hb hts hin ty0 hty hnm hown hwk.1 hrel.2.2 (px_img_D V G) hS (a - 13) (px_img_get e2 hG) hc k hk (hts _ hl) (fun _ q => q) hf (v := .ref (px_ad V x)) (hty k hk) hn1 hn2 (by rw [List.length_map]; exact e3) hd (fun H1 locs1 k1 _ k3 => h1 H1 locs1 (px_rel_set e2 hrel ?_) k3)
          show va_P _ _ ((px_img V G).set (a - 13) (px_ad V a, .inr (c1, (fs.set k (.ref x)).map (px_tv V)))) H1
          rw [List.map_set]
          exact k1
        · refine va_putF hx hb hts hin ty0 hty hnm hown hwk.1 hrel.2.2 (px_img_D V G) hS (a - 13) (px_img_get e2 hG) hc k hk (hts _ hl) (fun _ q => q) hf (by rw [hnm0]; exact hf2) hf3 (v := .ref (px_ad V x)) (hty k hk) hn1 hn2 (by rw [List.length_map]; exact e3) hd (fun H1 locs1 k1 _ k3 => h1 H1 locs1 (px_rel_set e2 hrel ?_) k3)
          show va_P _ _ ((px_img V G).set (a - 13) (px_ad V a, .inr (c1, (fs.set k (.ref x)).map (px_tv V)))) H1
          rw [List.map_set]
          exact k1
      · cases h
theorem sx_iast (hd : decode Y.2.1 pc = .ok (.iastore, 1)) : px_Snd d X Y pc (px_iast 0) 1 := by
  refine px_snd_put (fun st st' h => ?_) ?_
  · obtain ⟨L, S, G⟩ := st
    match S, h with
    | .int x :: .int i :: .ref a :: S, h =>
      dsimp only at h
      split at h
      · next t' n f hG =>
        cases (px_mem_inv h).2
        refine ⟨rfl, a, _, _, hG, ?_, rfl⟩
        rfl
      · cases h
  · intro V p l e R s m args below meth c H locs cells slots Q ls hx hb hown hts hnm0 hwk hS st st' h hrel h1
    obtain ⟨L, S, G⟩ := st
    match S, h with
    | .int x :: .int i :: .ref a :: S, h =>
      dsimp only at h
      split at h
      · next t' n f hG =>
        have hn := (px_mem_inv h).1
        simp only [Bool.and_eq_true] at hn
        obtain ⟨⟨b2, b3⟩, b1⟩ := hn
        have e1 : t' = 0 := Nat.eq_of_beq_eq_true b2
        have e2 : 13 ≤ a := Nat.le_of_ble_eq_true b3
        have hi := px_inb_iff.mp b1
        subst e1
        cases (px_mem_inv h).2
        exact va_iast hx hb hwk.1 hrel.2.2 (px_img_D V G) hS (a - 13) 0 (px_img_get e2 hG) rfl hi hd (fun H1 locs1 k1 _ k3 => h1 H1 locs1 (px_rel_set e2 hrel k1) k3)
      · cases h
theorem sx_zast (hd : decode Y.2.1 pc = .ok (.bastore, 1)) : px_Snd d X Y pc px_zast 1 := by
  refine px_snd_put (fun st st' h => ?_) ?_
  · obtain ⟨L, S, G⟩ := st
    match S, h with
    | .int x :: .int i :: .ref a :: S, h =>
      dsimp only at h
      split at h
      · next t' n f hG =>
        cases (px_mem_inv h).2
        refine ⟨rfl, a, _, _, hG, ?_, rfl⟩
        rfl
      · cases h
  · intro V p l e R s m args below meth c H locs cells slots Q ls hx hb hown hts hnm0 hwk hS st st' h hrel h1
    obtain ⟨L, S, G⟩ := st
    match S, h with
    | .int x :: .int i :: .ref a :: S, h =>
      dsimp only at h
      split at h
      · next t' n f hG =>
        have hn := (px_mem_inv h).1
        rw [Bool.and_eq_true] at hn
        have h01 := px_z01 hn.2
        have hn2 := hn.1
        simp only [Bool.and_eq_true] at hn2
        obtain ⟨⟨b2, b3⟩, b1⟩ := hn2
        have e1 : t' = 1 := Nat.eq_of_beq_eq_true b2
        have e2 : 13 ≤ a := Nat.le_of_ble_eq_true b3
        have hi := px_inb_iff.mp b1
        subst e1
        cases (px_mem_inv h).2
        have hx9 : vp_nar .boolean x = x := by rcases h01 with rfl | rfl <;> rfl
        exact va_zast hx hb hwk.1 hrel.2.2 (px_img_D V G) hS (a - 13) 1 (px_img_get e2 hG) rfl hi hd (fun H1 locs1 k1 _ k3 => h1 H1 locs1 (px_rel_set e2 hrel (by rw [hx9] at k1; exact k1)) k3)
      · cases h
theorem sx_last (hd : decode Y.2.1 pc = .ok (.lastore, 1)) : px_Snd d X Y pc px_last 1 := by
  refine px_snd_put (fun st st' h => ?_) ?_
  · obtain ⟨L, S, G⟩ := st
    match S, h with
    | .long x :: .int i :: .ref a :: S, h =>
      dsimp only at h
      split at h
      · next t' n f hG =>
        cases (px_mem_inv h).2
        refine ⟨rfl, a, _, _, hG, ?_, rfl⟩
        rfl
      · cases h
  · intro V p l e R s m args below meth c H locs cells slots Q ls hx hb hown hts hnm0 hwk hS st st' h hrel h1
    obtain ⟨L, S, G⟩ := st
    match S, h with
    | .long x :: .int i :: .ref a :: S, h =>
      dsimp only at h
      split at h
      · next t' n f hG =>
        have hn := (px_mem_inv h).1
        simp only [Bool.and_eq_true] at hn
        obtain ⟨⟨b2, b3⟩, b1⟩ := hn
        have e1 : t' = 2 := Nat.eq_of_beq_eq_true b2
        have e2 : 13 ≤ a := Nat.le_of_ble_eq_true b3
        have hi := px_inb_iff.mp b1
        subst e1
        cases (px_mem_inv h).2
        exact va_last hx hb hwk.1 hrel.2.2 (px_img_D V G) hS (a - 13) 2 (px_img_get e2 hG) rfl hi hd (fun H1 locs1 k1 _ k3 => h1 H1 locs1 (px_rel_set e2 hrel k1) k3)
      · cases h
theorem px_up_map {f : Nat → Option Nat} {g : Nat → Nat} {i : Nat} {o : Option Nat} : va_up (fun j => (f j).map g) i (o.map g) = fun j => (va_up f i o j).map g := by
  funext j
  unfold va_up
  split <;> rfl
theorem sx_aast {t ci : Nat} {q : vw_C} (ht : ∀ V, (px_tys V)[t]? = some (V.2.2.2.1 t, .object q.1)) (hc : px_cl[ci]? = some q) (hd : decode Y.2.1 pc = .ok (.aastore, 1)) : px_Snd d X Y pc (px_aast t ci) 1 := by
  refine px_snd_put (fun st st' h => ?_) ?_
  · obtain ⟨L, S, G⟩ := st
    match S, h with
    | .ref v :: .int i :: .ref a :: S, h =>
      dsimp only at h
      split at h
      · next t' n f hG =>
        split at h
        · cases (px_mem_inv h).2
          refine ⟨rfl, a, _, _, hG, ?_, rfl⟩
          rfl
        · cases h
      · cases h
  · intro V p l e R s m args below meth c H locs cells slots Q ls hx hb hown hts hnm0 hwk hS st st' h hrel h1
    obtain ⟨L, S, G⟩ := st
    match S, h with
    | .ref v :: .int i :: .ref a :: S, h =>
      dsimp only at h
      split at h
      · next t' n f hG =>
        split at h
        · next c1 fs hG2 =>
          have hn := (px_mem_inv h).1
          simp only [Bool.and_eq_true] at hn
          obtain ⟨⟨⟨b2, b3⟩, b4, b5⟩, b1⟩ := hn
          have e1 : t' = t := Nat.eq_of_beq_eq_true b2
          have e2 : 13 ≤ a := Nat.le_of_ble_eq_true b3
          have e3 : c1 = ci := Nat.eq_of_beq_eq_true b4
          have e4 : 13 ≤ v := Nat.le_of_ble_eq_true b5
          have hi := px_inb_iff.mp b1
          subst e1
          subst e3
          cases (px_mem_inv h).2
          refine va_astq hx hb hwk.1 hrel.2.2 (px_img_D V G) hS (a - 13) t' (v - 13) c1 (px_img_get e2 hG) (ht V) (px_img_get e4 hG2) hc hi hd (fun H1 locs1 k1 _ k3 => h1 H1 locs1 (px_rel_set e2 hrel ?_) k3)
          have e9 := px_up_map (f := f) (g := px_ad V) (i := i.toNatClampNeg) (o := some v)
          rw [Option.map_some] at e9
          rw [e9] at k1
          exact k1
        · cases h
      · cases h
theorem sx_aasn {t : Nat} {C : String} (ht : ∀ V, (px_tys V)[t]? = some (V.2.2.2.1 t, .object C)) (hd : decode Y.2.1 pc = .ok (.aastore, 1)) : px_Snd d X Y pc (px_aasn t) 1 := by
  refine px_snd_put (fun st st' h => ?_) ?_
  · obtain ⟨L, S, G⟩ := st
    match S, h with
    | .null :: .int i :: .ref a :: S, h =>
      dsimp only at h
      split at h
      · next t' n f hG =>
        cases (px_mem_inv h).2
        refine ⟨rfl, a, _, _, hG, ?_, rfl⟩
        rfl
      · cases h
  · intro V p l e R s m args below meth c H locs cells slots Q ls hx hb hown hts hnm0 hwk hS st st' h hrel h1
    obtain ⟨L, S, G⟩ := st
    match S, h with
    | .null :: .int i :: .ref a :: S, h =>
      dsimp only at h
      split at h
      · next t' n f hG =>
        have hn := (px_mem_inv h).1
        simp only [Bool.and_eq_true] at hn
        obtain ⟨⟨b2, b3⟩, b1⟩ := hn
        have e1 : t' = t := Nat.eq_of_beq_eq_true b2
        have e2 : 13 ≤ a := Nat.le_of_ble_eq_true b3
        have hi := px_inb_iff.mp b1
        subst e1
        cases (px_mem_inv h).2
        refine va_astqN hx hb hwk.1 hrel.2.2 (px_img_D V G) hS (a - 13) t' (px_img_get e2 hG) (ht V) hi hd (fun H1 locs1 k1 _ k3 => h1 H1 locs1 (px_rel_set e2 hrel ?_) k3)
        have e9 := px_up_map (f := f) (g := px_ad V) (i := i.toNatClampNeg) (o := none)
        rw [Option.map_none] at e9
        rw [e9] at k1
        exact k1
      · cases h
theorem px_snd_alt {len : Nat} {f : px_S → Option (Bool × Option Nat × px_S)} (hf : ∀ st o st', f st = some (true, o, st') → st'.1 = st.1 ∧ st'.2.2 = st.2.2)
    (hw : ∀ (V : px_V) (p : Program) (l : Launch) (e : Env) (R : Room) (s : State) (m : MethodId) (args : Array Value) (below : List Frame) (meth : Method) (c : Code) (H : Heap) (locs : List Loc) (cells slots : Nat) (Q : State → Prop) (ls : Array Slot), p.tables.exec = Jvm.exec → c.code = Y.2.1 → px_wk V s s.heap → va_S (px_A V) s.heap H locs → ∀ st o st', f st = some (true, o, st') → px_rel V st.2.2 H →
      W p l e R s m args below meth c H locs cells slots Q (F0 m (pc + len) ls (px_tv V (va_rf o) :: st'.2.1.map (px_tv V))) → W p l e R s m args below meth c H locs cells slots Q (F0 m pc ls (st.2.1.map (px_tv V)))) : px_Snd d X Y pc (px_alt f) len := by
  have key : ∀ (k : px_S → Option px_R) (j : px_J) (st : px_S) (r : px_R), (px_alt f).1 k j st = some r → ∃ o st', f st = some (true, o, st') ∧ k (st'.1, va_rf o :: st'.2.1, st'.2.2) = some r := by
    intro k j st r h
    unfold px_alt at h
    dsimp only at h
    cases hf : f st with
    | none => rw [hf] at h; cases h
    | some q =>
      obtain ⟨b, o, st'⟩ := q
      rw [hf] at h
      cases b with
      | false => cases h
      | true =>
        refine ⟨o, st', rfl, ?_⟩
        cases o <;> exact h
  refine ⟨fun _ k j st r h hk _ => ?_, fun V Γ hy _ _ k j st h hk _ => ?_⟩
  · obtain ⟨o, st', h1, h2⟩ := key k j st r h
    have := hk _ h2
    rw [← (hf st o st' h1).2]
    exact this
  · obtain ⟨o, st', h1, h2⟩ := key k j st _ h
    have h3 := (hk _ h2).2
    obtain ⟨e1, e2⟩ := hf st o st' h1
    obtain ⟨p, l, e, R, s, m, args, below, meth, c, n0, z0, r, Q⟩ := Γ
    obtain ⟨hx, hb, hml, hown, hts, -, -, -, hwk, -⟩ := hy
    intro H locs ls cells slots q2 q3 q4 q5 q6
    exact hw V p l e R s m args below meth c H locs cells slots Q ls hx hb hwk q3 st o st' h1 q2 (h3 H locs ls cells slots (by show px_rel V st'.2.2 H; rw [e2]; exact q2) q3 (by show px_lv V ls Y.2.2.1 st'.1; rw [e1]; exact q4) (by show cells + n0 = st'.2.2.length; rw [e2]; exact q5) (by show slots + z0 = px_sz st'.2.2; rw [e2]; exact q6))
theorem px_tv_rf (V : px_V) (o : Option Nat) : px_tv V (va_rf o) = va_rf (o.map (px_ad V)) := by cases o <;> rfl
theorem sx_aald {t : Nat} {C : String} (ht : ∀ V, (px_tys V)[t]? = some (V.2.2.2.1 t, .object C)) (hd : decode Y.2.1 pc = .ok (.aaload, 1)) : px_Snd d X Y pc (px_aald t) 1 := by
  refine px_snd_alt (fun st o st' h => ?_) ?_
  · obtain ⟨L, S, G⟩ := st
    match S, h with
    | .int i :: .ref a :: S, h =>
      dsimp only at h
      split at h
      · have hst : _ = st' := congrArg (fun q => q.2.2) (Option.some.inj h)
        dsimp only at hst
        subst hst
        exact ⟨rfl, rfl⟩
      · cases h
  · intro V p l e R s m args below meth c H locs cells slots Q ls hx hb hwk hS st o st' h hrel h1
    obtain ⟨L, S, G⟩ := st
    match S, h with
    | .int i :: .ref a :: S, h =>
      dsimp only at h
      split at h
      · next t' n f hG =>
        have hh := Option.some.inj h
        have hn : _ = true := congrArg (fun q => q.1) hh
        have ho : _ = o := congrArg (fun q => q.2.1) hh
        have hst : _ = st' := congrArg (fun q => q.2.2) hh
        dsimp only at hn ho hst
        simp only [Bool.and_eq_true] at hn
        obtain ⟨⟨b2, b3⟩, b1⟩ := hn
        have e1 : t' = t := Nat.eq_of_beq_eq_true b2
        subst e1
        subst ho
        subst hst
        rw [px_tv_rf] at h1
        exact va_aldq hx hb hwk.1 hrel.2.2 (a - 13) t' (px_img_get (Nat.le_of_ble_eq_true b3) hG) (ht V) (px_inb_iff.mp b1) hd h1
      · cases h
end S7
