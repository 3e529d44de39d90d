/-! PART 03: the world of the pure cells in the machine's heap; what a sound instruction is -/
abbrev px_V : Type := Nat × (Nat → Nat) × va_G × (Nat → ClassId) × (Nat → Int32) × Nat × (Nat → Nat)
def px_ad (V : px_V) (k : Nat) : Nat := if k < 13 then V.2.1 k else V.1 + (k - 13)
def px_A (V : px_V) : Nat → Prop := fun q => V.1 ≤ q
def px_tv (V : px_V) : Value → Value
  | .ref k => .ref (px_ad V k)
  | v => v
def px_te (V : px_V) : va_E → va_E
  | .inr (ci, fs) => .inr (ci, fs.map (px_tv V))
  | .inl (t, n, .inr (.inr (.inr (.inr g)))) => .inl (V.2.2.2.1 t, n, .inr (.inr (.inr (.inr fun j => (g j).map (px_ad V)))))
  | .inl (t, x) => .inl (V.2.2.2.1 t, x)
def px_KA : Nat → Int32 := fun j => ([-1, 0, 0, 0, 0, 3] : List Int32).getD j 0
def px_WK : Nat → Int32 := fun j => ([4, 8, 6, 2, 10, 1] : List Int32).getD j 0
def px_len : List Nat := [4, 4, 5, 1, 1, 3, 3, 2, 3, 3]
def px_byt : List (List Int32) := [[107, 105, 110, 100], [115, 105, 122, 101], [108, 97, 121, 101, 114], [120], [121], [100, 97, 121], [98, 97, 114], [111, 114], [97, 110, 100], [110, 111, 116]]
def px_tx : List (Nat × String) := [(124, "kind"), (126, "size"), (127, "layer"), (129, "x"), (131, "y"), (133, "day"), (135, "bar"), (137, "or"), (139, "and"), (141, "not")]
def px_st (i : Nat) : Nat → Int32 := fun j => (px_byt.getD i []).getD j 0
def px_ro (V : px_V) : List va_E := [.inl (0, V.2.2.2.2.2.1, .inl V.2.2.2.2.1), .inl (0, 6, .inl px_KA), .inl (0, 6, .inl px_WK), .inl (9, 4, .inl (px_st 0)), .inl (9, 4, .inl (px_st 1)), .inl (9, 5, .inl (px_st 2)), .inl (9, 1, .inl (px_st 3)), .inl (9, 1, .inl (px_st 4)), .inl (9, 3, .inl (px_st 5)), .inl (9, 3, .inl (px_st 6)), .inl (9, 2, .inl (px_st 7)), .inl (9, 3, .inl (px_st 8)), .inl (9, 3, .inl (px_st 9))]
def px_tys (V : px_V) : List (ClassId × FieldType) := [(V.2.2.2.1 0, .int), (V.2.2.2.1 1, .boolean), (V.2.2.2.1 2, .long), (V.2.2.2.1 3, .object RX2), (V.2.2.2.1 4, .object RX0), (V.2.2.2.1 5, .array .int)]
def px_nest : List (String × Nat × MethodName × String) := [("WreckField", 11, ⟨"WreckField$Survey", "<init>", "()V"⟩, "WreckField"), ("WreckField", 18, ⟨"WreckField$Yard", "<init>", "()V"⟩, "WreckField"), ("WreckField", 25, ⟨"WreckField$DiveLog", "<init>", "()V"⟩, "WreckField"), ("WreckField", 32, ⟨"WreckField$RuleReader", "<init>", "()V"⟩, "WreckField"), ("WreckField$RuleReader", 11, ⟨"WreckField$Rule", "<init>", "()V"⟩, "WreckField"), ("WreckField", 39, ⟨"WreckField$Timbers", "<init>", "()V"⟩, "WreckField"), ("WreckField", 46, ⟨"WreckField$Planner", "<init>", "()V"⟩, "WreckField"), ("WreckField", 53, ⟨"WreckField$Wreck", "<init>", "()V"⟩, "WreckField"), ("WreckField", 60, ⟨"WreckField$Sheets", "<init>", "()V"⟩, "WreckField")]
def px_AA (V : px_V) (U : State) : Prop := ∃ k : Class, U.vm.classes[V.2.2.2.1 5]? = some k ∧ k.kind = .array (V.2.2.2.1 0) (.array .int)
theorem px_AA.moved {V : px_V} {u U : State} (hvm : u.vm.Alike U.vm) (h : px_AA V u) : px_AA V U := by
  obtain ⟨k, h1, h2⟩ := h
  obtain ⟨k', hk', he⟩ := hvm.2.2 _ _ h1
  exact ⟨k', hk', by rw [he]; exact h2⟩
def px_wk (V : px_V) (U : State) (H : Heap) : Prop :=
  va_K V.2.2.1 px_cl (px_tys V) U ∧
  va_T .int (V.2.1 0) V.2.2.2.2.2.1 (fun j => .int (V.2.2.2.2.1 j)) (px_A V) U H ∧
  va_T .int (V.2.1 1) 6 (fun j => .int (px_KA j)) (px_A V) U H ∧
  va_T .int (V.2.1 2) 6 (fun j => .int (px_WK j)) (px_A V) U H ∧
  va_Z RX2 "KIND_ABOVE" "[I" (.ref (V.2.1 1)) (px_A V) U H ∧
  va_Z RX2 "WEEKS" "[I" (.ref (V.2.1 2)) (px_A V) U H ∧
  (∀ (i : Nat) (q : Nat × String), px_tx[i]? = some q → vk_R RX5 q.1 q.2 (V.2.1 (3 + i)) U) ∧
  vk_S 10 px_len px_byt (fun i => V.2.1 (3 + i)) V.2.2.2.2.2.2 (px_A V) U H ∧
  va_Z "java/lang/String" "COMPACT_STRINGS" "Z" (.int 1) (px_A V) U H ∧
  (∀ q ∈ px_nest, va_Nw (.methodLinkNest q.1 q.2.1 q.2.2.1 q.2.2.2) U) ∧ va_AO RX2 U ∧ va_AO RX0 U ∧ px_AA V U ∧ va_Zq "jdk/internal/util/Preconditions" "SIOOBE_FORMATTER" "Ljava/util/function/BiFunction;" (px_A V) U H
theorem px_wk.moved {V : px_V} {s U : State} {H : Heap} (hW : s.WarmedH U.vm) (h : px_wk V s H) : px_wk V U H := by
  obtain ⟨h1, h2, h3, h4, h5, h6, h7, h8, h9, h10, h11, h12, h13, h14⟩ := h
  have ha := hW.alike
  exact ⟨va_K.moved ha h1, va_T.moved ha h2, va_T.moved ha h3, va_T.moved ha h4, va_Z.moved ha h5, va_Z.moved ha h6, fun i q hq => vk_R.warm hW (h7 i q hq), vk_S.moved ha h8, va_Z.moved ha h9, fun q hq => va_Nw.warmM hW (h10 q hq), va_AO.moved ha h11, va_AO.moved ha h12, px_AA.moved ha h13, va_Zq.moved ha h14⟩
theorem px_wk.same {V : px_V} {u U : State} {H : Heap} (hv : U.vm = u.vm) (h : px_wk V u H) : px_wk V U H := by
  obtain ⟨h1, h2, h3, h4, h5, h6, h7, h8, h9, h10, h11, h12, h13, h14⟩ := h
  have ha : u.vm.Alike U.vm := by rw [hv]; exact Vm.Alike.refl u.vm
  exact ⟨va_K.moved ha h1, va_T.moved ha h2, va_T.moved ha h3, va_T.moved ha h4, va_Z.moved ha h5, va_Z.moved ha h6, fun i q hq => vk_R.same hv (h7 i q hq), vk_S.moved ha h8, va_Z.moved ha h9, fun q hq => va_Nw.same rfl hv.symm (h10 q hq), va_AO.moved ha h11, va_AO.moved ha h12, px_AA.moved ha h13, va_Zq.moved ha h14⟩
theorem px_wk.kept {V : px_V} {U : State} {H H1 : Heap} (h : px_wk V U H) (hq : ∀ a : Nat, a < H.size → ¬ px_A V a → H1[a]? = H[a]?) : px_wk V U H1 := by
  obtain ⟨h1, h2, h3, h4, h5, h6, h7, h8, h9, h10, h11, h12, h13, h14⟩ := h
  exact ⟨h1, h2.kept hq, h3.kept hq, h4.kept hq, h5.kept hq, h6.kept hq, h7, h8.kept hq, h9.kept hq, h10, h11, h12, h13, h14.kept hq⟩
def px_img (V : px_V) (G : px_H) : va_W := (G.drop 13).mapIdx fun i e => (V.1 + i, px_te V e)
def px_rel (V : px_V) (G : px_H) (H : Heap) : Prop := (∀ k, k < 13 → G[k]? = (px_ro V)[k]?) ∧ 13 ≤ G.length ∧ va_P V.2.2.1 px_cl (px_img V G) H
theorem px_img_get {V : px_V} {G : px_H} {k : Nat} {e : va_E} (hk : 13 ≤ k) (h : G[k]? = some e) : (px_img V G)[k - 13]? = some (px_ad V k, px_te V e) := by
  unfold px_img
  rw [List.getElem?_mapIdx, List.getElem?_drop, show 13 + (k - 13) = k by omega, h]
  simp [px_ad, show ¬ k < 13 by omega]
theorem px_img_set {V : px_V} {G : px_H} {k : Nat} {e : va_E} (hk : 13 ≤ k) : px_img V (G.set k e) = (px_img V G).set (k - 13) (px_ad V k, px_te V e) := by
  apply List.ext_getElem?
  intro i
  unfold px_img
  rw [List.getElem?_mapIdx, List.getElem?_drop, List.getElem?_set, List.getElem?_set, List.getElem?_mapIdx, List.getElem?_drop]
  by_cases hi : k = 13 + i
  · have : k - 13 = i := by omega
    subst hi
    rw [if_pos rfl, if_pos this]
    simp only [List.length_mapIdx, List.length_drop]
    by_cases hl : 13 + i < G.length
    · rw [if_pos hl, if_pos (by omega)]
      simp only [Option.map_some, px_ad, if_neg (show ¬ 13 + i < 13 by omega), this]
    · rw [if_neg hl, if_neg (by omega)]
      rfl
  · rw [if_neg hi, if_neg (by omega)]
theorem px_img_app {V : px_V} {G E : px_H} (hG : 13 ≤ G.length) : px_img V (G ++ E) = px_img V G ++ E.mapIdx fun i e => (V.1 + (G.length - 13) + i, px_te V e) := by
  unfold px_img
  rw [List.drop_append_of_le_length hG, List.mapIdx_append]
  congr 1
  simp only [List.length_drop]
  apply List.ext_getElem?
  intro i
  rw [List.getElem?_mapIdx, List.getElem?_mapIdx]
  congr 1
  funext e
  rw [Prod.mk.injEq]
  exact ⟨by omega, rfl⟩
theorem px_img_at {V : px_V} {G : px_H} {i : Nat} {q : Nat × va_E} (h : (px_img V G)[i]? = some q) : q.1 = V.1 + i ∧ i + 13 < G.length := by
  unfold px_img at h
  rw [List.getElem?_mapIdx, List.getElem?_drop] at h
  cases hg : G[13 + i]? with
  | none => rw [hg] at h; cases h
  | some e =>
    rw [hg] at h
    cases h
    have := (List.getElem?_eq_some_iff.mp hg).1
    exact ⟨rfl, by omega⟩
theorem px_img_D (V : px_V) (G : px_H) : va_D (px_A V) (px_img V G) := by
  refine ⟨fun i j p q hi hj hpq => ?_, fun k q hk => ?_⟩
  · have h1 := (px_img_at hi).1
    have h2 := (px_img_at hj).1
    omega
  · have h1 := (px_img_at hk).1
    show V.1 ≤ q.1
    omega
theorem px_img_len (V : px_V) (G : px_H) : (px_img V G).length = G.length - 13 := by
  unfold px_img
  rw [List.length_mapIdx, List.length_drop]
def px_es : va_E → Nat
  | .inl (_, n, _) => n
  | .inr (_, fs) => fs.length
def px_sz (G : px_H) : Nat := (G.map px_es).sum
def px_le (G G' : px_H) : Prop := G.length ≤ G'.length ∧ px_sz G ≤ px_sz G'
theorem px_le.rf (G : px_H) : px_le G G := ⟨Nat.le_refl _, Nat.le_refl _⟩
theorem px_le.tr {A B C : px_H} (h : px_le A B) (h2 : px_le B C) : px_le A C := ⟨Nat.le_trans h.1 h2.1, Nat.le_trans h.2 h2.2⟩
theorem px_sz_set : ∀ (G : px_H) (k : Nat) (e e' : va_E), G[k]? = some e → px_es e' = px_es e → px_sz (G.set k e') = px_sz G
  | [], _, _, _, h, _ => by simp at h
  | x :: G, 0, e, e', h, he => by
    simp at h
    subst h
    simp [px_sz, he]
  | x :: G, k + 1, e, e', h, he => by
    have := px_sz_set G k e e' (by simpa using h) he
    simp only [px_sz, List.set_cons_succ, List.map_cons, List.sum_cons] at this ⊢
    omega
theorem px_sz_app (G E : px_H) : px_sz (G ++ E) = px_sz G + px_sz E := by simp [px_sz]
theorem px_le_set {G : px_H} {k : Nat} {e e' : va_E} (h : G[k]? = some e) (he : px_es e' = px_es e) : px_le G (G.set k e') := ⟨by simp, by rw [px_sz_set G k e e' h he]; exact Nat.le_refl _⟩
theorem px_le_app (G E : px_H) : px_le G (G ++ E) := ⟨by simp, by rw [px_sz_app]; omega⟩
def px_lv (V : px_V) (ls : Array Slot) (nL : Nat) (L : px_L) : Prop := ls.size = nL ∧ L.length = nL ∧ lv_wf ls ∧ ∀ (i : Nat) (v : Value), L[i]? = some (some v) → ls[i]? = some (.val (px_tv V v))
def px_Pc (V : px_V) (as : List Value) (G : px_H) : Array Value → State → Prop := fun v U => v = (as.map (px_tv V)).toArray ∧ px_rel V G U.heap ∧ px_wk V U U.heap ∧ U.heap.size + 13 = V.1 + G.length
def px_Qc (V : px_V) (r : px_R) : Array Value → State → Outcome → State → Prop := fun _ st oc t => oc = .returned (r.1.map (px_tv V)) ∧ px_rel V r.2 t.heap ∧ va_F (px_A V) st t
/-- a method as it is proved: its name, its code, its locals, what it returns -/
abbrev px_Y : Type := MethodName × ByteArray × Nat × Option FieldType
abbrev px_G : Type := Program × Launch × Env × Room × State × MethodId × Array Value × List Frame × Method × Code × Nat × Nat × px_R × (State → Prop)
def px_Hy (V : px_V) (d : Nat) (Y : px_Y) (Γ : px_G) : Prop := match Γ with
  | (p, _, _, R, s, m, args, below, meth, c, n0, z0, r, Q) => p.tables.exec = Jvm.exec ∧ c.code = Y.2.1 ∧ c.maxLocals = Y.2.2.1 ∧ s.vm.findClass Y.1.cls = some m.cls ∧ (∀ w ∈ px_good, w.before args s = true) ∧ meth.sig.returnType = Y.2.2.2 ∧ meth.locks = false ∧ meth.name = Y.1.name ∧ px_wk V s s.heap ∧ s.heap.size + 13 = V.1 + n0 ∧ 13 ≤ n0 ∧ (d + 9 ≤ R.frames ∧ 64 * (d + 9) ≤ R.locals) ∧ r.2.length ≤ R.cells + n0 ∧ px_sz r.2 ≤ R.slots + z0 ∧ ∀ t, MQ below (px_Qc V r) args s R.cells R.slots (px_A V) t → Q t
def px_Aw (V : px_V) (Y : px_Y) (Γ : px_G) (pc : Nat) (st : px_S) : Prop := match Γ with
  | (p, l, e, R, s, m, args, below, meth, c, n0, z0, _, Q) => ∀ (H : Heap) (locs : List Loc) (ls : Array Slot) (cells slots : Nat), px_rel V st.2.2 H → va_S (px_A V) s.heap H locs → px_lv V ls Y.2.2.1 st.1 → cells + n0 = st.2.2.length → slots + z0 = px_sz st.2.2 →
    W p l e R s m args below meth c H locs cells slots Q (F0 m pc ls (st.2.1.map (px_tv V)))
def px_rr (Γ : px_G) : px_R := match Γ with
  | (_, _, _, _, _, _, _, _, _, _, _, _, r, _) => r
def px_ll (Γ : px_G) : Launch := match Γ with
  | (_, l, _, _, _, _, _, _, _, _, _, _, _, _) => l
def px_room (d : Nat) (G : px_H) (r : px_R) : Room := { frames := d + 8, cells := r.2.length - G.length, slots := px_sz r.2 - px_sz G, locals := 64 * (d + 8) }
def px_Met (V : px_V) (l : Launch) (d : Nat) (Y : px_Y) (as : List Value) (G : px_H) (r : px_R) : Prop :=
  Met l Y.1 (Cond.code Y.1 Y.2.1 Y.2.2.1 Y.2.2.2 :: px_good) (px_room d G r) (px_Pc V as G) (px_Qc V r) (r.2.length - G.length) (px_sz r.2 - px_sz G) (px_A V)
def px_XG (X : px_X) : Prop := ∀ (y : Nat) (as : List Value) (G : px_H) (r : px_R), X y as G = some r → px_le G r.2
def px_XM (V : px_V) (l : Launch) (d : Nat) (X : px_X) : Prop := ∀ (y : Nat) (as : List Value) (G : px_H) (r : px_R) (Y : px_Y), X y as G = some r → px_inf[y]? = some Y → px_Met V l d Y as G r
/-- an instruction at a place of a method is sound: the pure step is the machine's -/
def px_Snd (d : Nat) (X : px_X) (Y : px_Y) (pc : Nat) (i : px_I) (len : Nat) : Prop :=
  (px_XG X → ∀ k j st r, i.1 k j st = some r → (∀ st', k st' = some r → px_le st'.2.2 r.2) → (∀ t st', j t st' = some r → px_le st'.2.2 r.2) → px_le st.2.2 r.2) ∧
  ∀ V Γ, px_Hy V d Y Γ → px_XG X → px_XM V (px_ll Γ) d X → ∀ k j st, i.1 k j st = some (px_rr Γ) → (∀ st', k st' = some (px_rr Γ) → px_le st'.2.2 (px_rr Γ).2 ∧ px_Aw V Y Γ (pc + len) st') → (∀ t st', j t st' = some (px_rr Γ) → px_le st'.2.2 (px_rr Γ).2 ∧ px_Aw V Y Γ t st') → px_Aw V Y Γ pc st
theorem px_snd_mem {d : Nat} {X : px_X} {Y : px_Y} {pc len : Nat} {f : px_S → Option (Bool × px_S)} (hg : ∀ st st', f st = some (true, st') → px_le st.2.2 st'.2.2)
    (hw : ∀ V Γ, px_Hy V d Y Γ → ∀ st st', f st = some (true, st') → px_le st'.2.2 (px_rr Γ).2 → px_Aw V Y Γ (pc + len) st' → px_Aw V Y Γ pc st) : px_Snd d X Y pc (px_mem f) len := by
  refine ⟨fun _ k j st r h hk _ => ?_, fun V Γ hy _ _ k j st h hk _ => ?_⟩
  · unfold px_mem at h
    dsimp only at h
    cases hf : f st with
    | none => rw [hf] at h; cases h
    | some q =>
      obtain ⟨b, st'⟩ := q
      rw [hf] at h
      cases b with
      | false => cases h
      | true => exact (hg st st' hf).tr (hk st' h)
  · unfold px_mem at h
    dsimp only at h
    cases hf : f st with
    | none => rw [hf] at h; cases h
    | some q =>
      obtain ⟨b, st'⟩ := q
      rw [hf] at h
      cases b with
      | false => cases h
      | true => exact hw V Γ hy st st' hf (hk st' h).1 (hk st' h).2
theorem px_snd_br {d : Nat} {X : px_X} {Y : px_Y} {pc len t : Nat} {f : px_S → Option (Bool × px_S)} (hg : ∀ st b st', f st = some (b, st') → px_le st.2.2 st'.2.2)
    (hw : ∀ V Γ, px_Hy V d Y Γ → ∀ st b st', f st = some (b, st') → (b = true → px_Aw V Y Γ t st') → (b = false → px_Aw V Y Γ (pc + len) st') → px_Aw V Y Γ pc st) : px_Snd d X Y pc (px_br f t) len := by
  refine ⟨fun _ k j st r h hk hj => ?_, fun V Γ hy _ _ k j st h hk hj => ?_⟩
  · unfold px_br at h
    dsimp only at h
    cases hf : f st with
    | none => rw [hf] at h; cases h
    | some q =>
      obtain ⟨b, st'⟩ := q
      rw [hf] at h
      cases b with
      | false => exact (hg st _ st' hf).tr (hk st' h)
      | true => exact (hg st _ st' hf).tr (hj t st' h)
  · unfold px_br at h
    dsimp only at h
    cases hf : f st with
    | none => rw [hf] at h; cases h
    | some q =>
      obtain ⟨b, st'⟩ := q
      rw [hf] at h
      refine hw V Γ hy st b st' hf (fun e => ?_) (fun e => ?_)
      · subst e
        exact (hj t st' h).2
      · subst e
        exact (hk st' h).2
theorem px_snd_goto {d : Nat} {X : px_X} {Y : px_Y} {pc t : Nat} {off : Int} (hd : decode Y.2.1 pc = .ok (.goto off, 3)) (ht : (pc : Int) + off = (t : Int)) : px_Snd d X Y pc (px_goto t) 3 := by
  refine ⟨fun _ k j st r h _ hj => hj t st h, fun V Γ hy _ _ k j st h _ hj => ?_⟩
  have h1 := (hj t st h).2
  obtain ⟨p, l, e, R, s, m, args, below, meth, c, n0, z0, r, Q⟩ := Γ
  obtain ⟨hx, hb, -⟩ := hy
  intro H locs ls cells slots h2 h3 h4 h5 h6
  exact lv_goto hx hb hd ht (h1 H locs ls cells slots h2 h3 h4 h5 h6)
