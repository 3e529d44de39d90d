/-! PART 05: sound: locals, stack, conversions, Math, branches, switches -/
section S5
variable {d : Nat} {X : px_X} {Y : px_Y} {pc : Nat}
theorem px_cat_tv (V : px_V) (S : List Value) : ((S.map (px_tv V)).map fun v => v.category).sum = px_cat S := by
  unfold px_cat
  rw [List.map_map]
  congr 1
  apply List.map_congr_left
  intro v _
  cases v <;> rfl
theorem px_tv_cat (V : px_V) (v : Value) : (px_tv V v).category = v.category := by cases v <;> rfl
theorem sx_lcmp (hd : decode Y.2.1 pc = .ok (.lcmp, 1)) : px_Snd d X Y pc px_lcmp 1 := by
  refine px_snd_stk (fun st st' h => ?_) ?_
  · obtain ⟨L, S, G⟩ := st
    match S, h with
    | .long y :: .long x :: S, h => cases (px_mem_inv h).2; exact ⟨rfl, rfl⟩
  · intro V p l e R s m args below meth c H locs cells slots Q ls hx hb hown hts hwk hS hml hR hc st st' h _ _ h1
    obtain ⟨L, S, G⟩ := st
    match S, h with
    | .long y :: .long x :: S, h =>
      cases (px_mem_inv h).2
      exact W.lcmp hx hb hd h1
theorem sx_i2l (hd : decode Y.2.1 pc = .ok (.i2l, 1)) : px_Snd d X Y pc px_i2l 1 := by
  refine px_snd_stk (fun st st' h => ?_) ?_
  · obtain ⟨L, S, G⟩ := st
    match S, h with
    | .int x :: S, h => cases (px_mem_inv h).2; exact ⟨rfl, rfl⟩
  · intro V p l e R s m args below meth c H locs cells slots Q ls hx hb hown hts hwk hS hml hR hc st st' h _ _ h1
    obtain ⟨L, S, G⟩ := st
    match S, h with
    | .int x :: S, h =>
      cases (px_mem_inv h).2
      exact lv_i2l hx hb hd rfl h1
theorem sx_l2i (hd : decode Y.2.1 pc = .ok (.l2i, 1)) : px_Snd d X Y pc px_l2i 1 := by
  refine px_snd_stk (fun st st' h => ?_) ?_
  · obtain ⟨L, S, G⟩ := st
    match S, h with
    | .long x :: S, h => cases (px_mem_inv h).2; exact ⟨rfl, rfl⟩
  · intro V p l e R s m args below meth c H locs cells slots Q ls hx hb hown hts hwk hS hml hR hc st st' h _ _ h1
    obtain ⟨L, S, G⟩ := st
    match S, h with
    | .long x :: S, h =>
      cases (px_mem_inv h).2
      exact lv_l2i hx hb hd rfl h1
theorem sx_dup (hd : decode Y.2.1 pc = .ok (.dup, 1)) : px_Snd d X Y pc px_dup 1 := by
  refine px_snd_stk (fun st st' h => ?_) ?_
  · obtain ⟨L, S, G⟩ := st
    match S, h with
    | v :: S, h => cases (px_mem_inv h).2; exact ⟨rfl, rfl⟩
  · intro V p l e R s m args below meth c H locs cells slots Q ls hx hb hown hts hwk hS hml hR hc st st' h _ _ h1
    obtain ⟨L, S, G⟩ := st
    match S, h with
    | v :: S, h =>
      have hn := (px_mem_inv h).1
      cases (px_mem_inv h).2
      exact lv_dup hx hb hd (by rw [px_tv_cat]; exact Nat.eq_of_beq_eq_true hn) h1
theorem sx_dup2 (hd : decode Y.2.1 pc = .ok (.dup2, 1)) : px_Snd d X Y pc px_dup2 1 := by
  refine px_snd_stk (fun st st' h => ?_) ?_
  · obtain ⟨L, S, G⟩ := st
    match S, h with
    | v :: w :: S, h => cases (px_mem_inv h).2; exact ⟨rfl, rfl⟩
  · intro V p l e R s m args below meth c H locs cells slots Q ls hx hb hown hts hwk hS hml hR hc st st' h _ _ h1
    obtain ⟨L, S, G⟩ := st
    match S, h with
    | v :: w :: S, h =>
      have hn := (px_mem_inv h).1
      rw [Bool.and_eq_true] at hn
      cases (px_mem_inv h).2
      exact lv_dup2_11 hx hb hd (by rw [px_tv_cat]; exact Nat.eq_of_beq_eq_true hn.1) (by rw [px_tv_cat]; exact Nat.eq_of_beq_eq_true hn.2) h1
theorem sx_mmax {index : Nat} (hd : decode Y.2.1 pc = .ok (.invokestatic index, 3)) (h1 : Cond.methodLink Y.1.cls index Lib.Math.max.name ∈ px_good) (h2 : Cond.static Lib.Math.max.name ∈ px_good) (h3 : Cond.initialized "java/lang/Math" ∈ px_good) (h4 : Cond.code Lib.Math.max.name Lib.Math.max.code 2 (some .int) ∈ px_good) : px_Snd d X Y pc (px_i2m fun x y => if x < y then y else x) 3 := by
  refine px_snd_stk (fun st st' h => ?_) ?_
  · obtain ⟨L, S, G⟩ := st
    match S, h with
    | .int y :: .int x :: S, h => cases (px_mem_inv h).2; exact ⟨rfl, rfl⟩
  · intro V p l e R s m args below meth c H locs cells slots Q ls hx hb hown hts hwk hS hml hR hc st st' h _ _ hk
    obtain ⟨L, S, G⟩ := st
    match S, h with
    | .int y :: .int x :: S, h =>
      have hn := Nat.le_of_ble_eq_true (px_mem_inv h).1
      cases (px_mem_inv h).2
      exact va_mmax hx hb hml hown (hts _ h1) (hts _ h2) (hts _ h3) (hts _ h4) (by omega) (by rw [px_cat_tv]; omega) hc.1 hc.2 hd hk
theorem sx_mmin {index : Nat} (hd : decode Y.2.1 pc = .ok (.invokestatic index, 3)) (h1 : Cond.methodLink Y.1.cls index Lib.Math.min.name ∈ px_good) (h2 : Cond.static Lib.Math.min.name ∈ px_good) (h3 : Cond.initialized "java/lang/Math" ∈ px_good) (h4 : Cond.code Lib.Math.min.name Lib.Math.min.code 2 (some .int) ∈ px_good) : px_Snd d X Y pc (px_i2m fun x y => if y < x then y else x) 3 := by
  refine px_snd_stk (fun st st' h => ?_) ?_
  · obtain ⟨L, S, G⟩ := st
    match S, h with
    | .int y :: .int x :: S, h => cases (px_mem_inv h).2; exact ⟨rfl, rfl⟩
  · intro V p l e R s m args below meth c H locs cells slots Q ls hx hb hown hts hwk hS hml hR hc st st' h _ _ hk
    obtain ⟨L, S, G⟩ := st
    match S, h with
    | .int y :: .int x :: S, h =>
      have hn := Nat.le_of_ble_eq_true (px_mem_inv h).1
      cases (px_mem_inv h).2
      exact va_mmin hx hb hml hown (hts _ h1) (hts _ h2) (hts _ h3) (hts _ h4) (by omega) (by rw [px_cat_tv]; omega) hc.1 hc.2 hd hk
theorem sx_mabs {index : Nat} (hd : decode Y.2.1 pc = .ok (.invokestatic index, 3)) (h1 : Cond.methodLink Y.1.cls index Lib.Math.abs.name ∈ px_good) (h2 : Cond.static Lib.Math.abs.name ∈ px_good) (h3 : Cond.initialized "java/lang/Math" ∈ px_good) (h4 : Cond.code Lib.Math.abs.name Lib.Math.abs.code 1 (some .int) ∈ px_good) : px_Snd d X Y pc (px_i1m fun x => if 0 ≤ x then x else 0 - x) 3 := by
  refine px_snd_stk (fun st st' h => ?_) ?_
  · obtain ⟨L, S, G⟩ := st
    match S, h with
    | .int x :: S, h => cases (px_mem_inv h).2; exact ⟨rfl, rfl⟩
  · intro V p l e R s m args below meth c H locs cells slots Q ls hx hb hown hts hwk hS hml hR hc st st' h _ _ hk
    obtain ⟨L, S, G⟩ := st
    match S, h with
    | .int x :: S, h =>
      have hn := Nat.le_of_ble_eq_true (px_mem_inv h).1
      cases (px_mem_inv h).2
      exact va_mabs hx hb hml hown (hts _ h1) (hts _ h2) (hts _ h3) (hts _ h4) (by omega) (by rw [px_cat_tv]; omega) hc.1 hc.2 hd hk
theorem sx_lmax {index : Nat} (hd : decode Y.2.1 pc = .ok (.invokestatic index, 3)) (h1 : Cond.methodLink Y.1.cls index Lib.MathLoose.max_long.x ∈ px_good) (h2 : Cond.static Lib.MathLoose.max_long.x ∈ px_good) (h3 : Cond.initialized "java/lang/Math" ∈ px_good) (h4 : Cond.code Lib.MathLoose.max_long.x Lib.MathLoose.max_long.code 4 (some .long) ∈ px_good) : px_Snd d X Y pc (px_l2m fun x y => if y < x then x else y) 3 := by
  refine px_snd_stk (fun st st' h => ?_) ?_
  · obtain ⟨L, S, G⟩ := st
    match S, h with
    | .long y :: .long x :: S, h => cases (px_mem_inv h).2; exact ⟨rfl, rfl⟩
  · intro V p l e R s m args below meth c H locs cells slots Q ls hx hb hown hts hwk hS hml hR hc st st' h _ _ hk
    obtain ⟨L, S, G⟩ := st
    match S, h with
    | .long y :: .long x :: S, h =>
      have hn := Nat.le_of_ble_eq_true (px_mem_inv h).1
      cases (px_mem_inv h).2
      exact va_mmax_long hx hb hml hown (hts _ h1) (hts _ h2) (hts _ h3) (hts _ h4) (by omega) (by rw [px_cat_tv]; omega) hc.1 hc.2 hd hk
-- loads
theorem px_snd_iload {n len : Nat} (row : ∀ (p : Program) (l : Launch) (e : Env) (R : Room) (s : State) (m : MethodId) (args : Array Value) (below : List Frame) (meth : Method) (c : Code) (H : Heap) (locs : List Loc) (cells slots : Nat) (Q : State → Prop) (ls : Array Slot) (rest : List Value) (x : Int32), p.tables.exec = Jvm.exec → c.code = Y.2.1 → ls[n]? = some (.val (.int x)) → W p l e R s m args below meth c H locs cells slots Q (F0 m (pc + len) ls (.int x :: rest)) → W p l e R s m args below meth c H locs cells slots Q (F0 m pc ls rest)) : px_Snd d X Y pc (px_iload n) len := by
  refine px_snd_stk (fun st st' h => ?_) ?_
  · try dsimp only at h
    split at h
    · cases (px_mem_inv h).2; exact ⟨rfl, rfl⟩
    · cases h
  · intro V p l e R s m args below meth c H locs cells slots Q ls hx hb hown hts hwk hS hml hR hc st st' h _ hlv h1
    try dsimp only at h
    split at h
    · next x hL =>
      cases (px_mem_inv h).2
      exact row p l e R s m args below meth c H locs cells slots Q ls (st.2.1.map (px_tv V)) x hx hb (hlv.2.2.2 n _ hL) h1
    · cases h
theorem sx_iload {n : Nat} (hd : decode Y.2.1 pc = .ok (.iload n, 2)) : px_Snd d X Y pc (px_iload n) 2 := px_snd_iload fun p l e R s m args below meth c H locs cells slots Q ls rest x hx hb h k => lv_iload hx hb hd h k
theorem sx_iload_n {q : Fin 4} {n : Nat} (hd : decode Y.2.1 pc = .ok (.iload_n q, 1)) (hn : (q : Nat) = n) : px_Snd d X Y pc (px_iload n) 1 := px_snd_iload fun p l e R s m args below meth c H locs cells slots Q ls rest x hx hb h k => lv_iload_n hx hb hd hn h k
theorem px_snd_lload {n len : Nat} (row : ∀ (p : Program) (l : Launch) (e : Env) (R : Room) (s : State) (m : MethodId) (args : Array Value) (below : List Frame) (meth : Method) (c : Code) (H : Heap) (locs : List Loc) (cells slots : Nat) (Q : State → Prop) (ls : Array Slot) (rest : List Value) (x : Int64), p.tables.exec = Jvm.exec → c.code = Y.2.1 → ls[n]? = some (.val (.long x)) → W p l e R s m args below meth c H locs cells slots Q (F0 m (pc + len) ls (.long x :: rest)) → W p l e R s m args below meth c H locs cells slots Q (F0 m pc ls rest)) : px_Snd d X Y pc (px_lload n) len := by
  refine px_snd_stk (fun st st' h => ?_) ?_
  · try dsimp only at h
    split at h
    · cases (px_mem_inv h).2; exact ⟨rfl, rfl⟩
    · cases h
  · intro V p l e R s m args below meth c H locs cells slots Q ls hx hb hown hts hwk hS hml hR hc st st' h _ hlv h1
    try dsimp only at h
    split at h
    · next x hL =>
      cases (px_mem_inv h).2
      exact row p l e R s m args below meth c H locs cells slots Q ls (st.2.1.map (px_tv V)) x hx hb (hlv.2.2.2 n _ hL) h1
    · cases h
theorem sx_lload {n : Nat} (hd : decode Y.2.1 pc = .ok (.lload n, 2)) : px_Snd d X Y pc (px_lload n) 2 := px_snd_lload fun p l e R s m args below meth c H locs cells slots Q ls rest x hx hb h k => lv_lload hx hb hd h k
theorem sx_lload_n {q : Fin 4} {n : Nat} (hd : decode Y.2.1 pc = .ok (.lload_n q, 1)) (hn : (q : Nat) = n) : px_Snd d X Y pc (px_lload n) 1 := px_snd_lload fun p l e R s m args below meth c H locs cells slots Q ls rest x hx hb h k => lv_lload_n hx hb hd hn h k
theorem px_snd_aload {n len : Nat} (row : ∀ (p : Program) (l : Launch) (e : Env) (R : Room) (s : State) (m : MethodId) (args : Array Value) (below : List Frame) (meth : Method) (c : Code) (H : Heap) (locs : List Loc) (cells slots : Nat) (Q : State → Prop) (ls : Array Slot) (rest : List Value) (x : Nat), p.tables.exec = Jvm.exec → c.code = Y.2.1 → ls[n]? = some (.val (.ref x)) → W p l e R s m args below meth c H locs cells slots Q (F0 m (pc + len) ls (.ref x :: rest)) → W p l e R s m args below meth c H locs cells slots Q (F0 m pc ls rest))
    (rowN : ∀ (p : Program) (l : Launch) (e : Env) (R : Room) (s : State) (m : MethodId) (args : Array Value) (below : List Frame) (meth : Method) (c : Code) (H : Heap) (locs : List Loc) (cells slots : Nat) (Q : State → Prop) (ls : Array Slot) (rest : List Value), p.tables.exec = Jvm.exec → c.code = Y.2.1 → ls[n]? = some (.val .null) → W p l e R s m args below meth c H locs cells slots Q (F0 m (pc + len) ls (.null :: rest)) → W p l e R s m args below meth c H locs cells slots Q (F0 m pc ls rest)) : px_Snd d X Y pc (px_aload n) len := by
  refine px_snd_stk (fun st st' h => ?_) ?_
  · try dsimp only at h
    split at h
    · cases (px_mem_inv h).2; exact ⟨rfl, rfl⟩
    · cases (px_mem_inv h).2; exact ⟨rfl, rfl⟩
    · cases h
  · intro V p l e R s m args below meth c H locs cells slots Q ls hx hb hown hts hwk hS hml hR hc st st' h _ hlv h1
    try dsimp only at h
    split at h
    · next x hL =>
      cases (px_mem_inv h).2
      exact row p l e R s m args below meth c H locs cells slots Q ls (st.2.1.map (px_tv V)) _ hx hb (hlv.2.2.2 n _ hL) h1
    · next hL =>
      cases (px_mem_inv h).2
      exact rowN p l e R s m args below meth c H locs cells slots Q ls (st.2.1.map (px_tv V)) hx hb (hlv.2.2.2 n _ hL) h1
    · cases h
theorem sx_aload {n : Nat} (hd : decode Y.2.1 pc = .ok (.aload n, 2)) : px_Snd d X Y pc (px_aload n) 2 := px_snd_aload (fun p l e R s m args below meth c H locs cells slots Q ls rest x hx hb h k => lv_aload hx hb hd h k) (fun p l e R s m args below meth c H locs cells slots Q ls rest hx hb h k => lv_aloadN hx hb hd h k)
theorem sx_aload_n {q : Fin 4} {n : Nat} (hd : decode Y.2.1 pc = .ok (.aload_n q, 1)) (hn : (q : Nat) = n) : px_Snd d X Y pc (px_aload n) 1 := px_snd_aload (fun p l e R s m args below meth c H locs cells slots Q ls rest x hx hb h k => lv_aload_n hx hb hd hn h k) (fun p l e R s m args below meth c H locs cells slots Q ls rest hx hb h k => lv_aload_nN hx hb hd hn h k)
-- stores
def px_al (V : px_V) (L : px_L) : List (Nat × Value) := (List.range L.length).filterMap fun i => match L[i]? with
  | some (some v) => some (i, px_tv V v)
  | _ => none
theorem px_al_mem {V : px_V} {L : px_L} {i : Nat} {w : Value} : (i, w) ∈ px_al V L ↔ ∃ v, L[i]? = some (some v) ∧ w = px_tv V v := by
  unfold px_al
  rw [List.mem_filterMap]
  constructor
  · rintro ⟨j, -, hj⟩
    split at hj
    · next v hv =>
      cases hj
      exact ⟨v, hv, rfl⟩
    · cases hj
  · rintro ⟨v, hv, rfl⟩
    refine ⟨i, List.mem_range.mpr (List.getElem?_eq_some_iff.mp hv).1, ?_⟩
    rw [hv]
theorem px_lv_has {V : px_V} {ls : Array Slot} {nL : Nat} {L : px_L} (h : px_lv V ls nL L) : lv_has ls nL (px_al V L) := ⟨h.1, h.2.2.1, fun q hq => by
  obtain ⟨v, h1, h2⟩ := px_al_mem.mp (show (q.1, q.2) ∈ px_al V L from hq)
  rw [h2]
  exact h.2.2.2 _ _ h1⟩
theorem px_kill_len (L : px_L) (n : Nat) : (px_kill L n).length = L.length := by
  cases n with
  | zero => rfl
  | succ n =>
    unfold px_kill
    dsimp only
    split <;> simp
theorem px_kill_get {L : px_L} {n i : Nat} {v : Value} (h : (px_kill L n)[i]? = some (some v)) : L[i]? = some (some v) ∧ ¬ (i + 1 = n ∧ v.category = 2) := by
  cases n with
  | zero => exact ⟨h, by rintro ⟨h1, -⟩; cases h1⟩
  | succ n =>
    unfold px_kill at h
    try dsimp only at h
    split at h
    · next hL =>
      by_cases e : n = i
      · subst e
        rw [List.getElem?_set] at h
        simp at h
      · rw [List.getElem?_set_ne e] at h
        exact ⟨h, by rintro ⟨h1, -⟩; omega⟩
    · next hL =>
      by_cases e : n = i
      · subst e
        rw [List.getElem?_set] at h
        simp at h
      · rw [List.getElem?_set_ne e] at h
        exact ⟨h, by rintro ⟨h1, -⟩; omega⟩
    · next n1 n2 =>
      refine ⟨h, ?_⟩
      rintro ⟨h1, h2⟩
      have e : i = n := by omega
      subst e
      cases v <;> first | (cases h2; done) | exact n1 _ h | exact n2 _ h
theorem px_lv_set1 {V : px_V} {ls ls' : Array Slot} {nL n : Nat} {L : px_L} {v : Value} (h : px_lv V ls nL L) (hn : n < L.length)
    (h' : lv_has ls' nL ((n, px_tv V v) :: (px_al V L).filter (fun q => !(q.1 == n) && !(q.1 + 1 == n && q.2.category == 2)))) : px_lv V ls' nL (px_set1 L n v) := by
  refine ⟨h'.1, by unfold px_set1; rw [List.length_set, px_kill_len]; exact h.2.1, h'.2.1, fun i w hi => ?_⟩
  unfold px_set1 at hi
  by_cases e : n = i
  · subst e
    rw [List.getElem?_set_self (by rw [px_kill_len]; exact hn)] at hi
    cases hi
    exact h'.2.2 (n, px_tv V v) List.mem_cons_self
  · rw [List.getElem?_set_ne e] at hi
    obtain ⟨h1, h2⟩ := px_kill_get hi
    refine h'.2.2 (i, px_tv V w) (List.mem_cons_of_mem _ (List.mem_filter.mpr ⟨px_al_mem.mpr ⟨w, h1, rfl⟩, ?_⟩))
    simp only [Bool.and_eq_true, Bool.not_eq_true', beq_eq_false_iff_ne, ne_eq, Bool.and_eq_false_iff, px_tv_cat]
    refine ⟨fun q => e q.symm, ?_⟩
    by_cases e2 : i + 1 = n
    · exact Or.inr (fun q => h2 ⟨e2, q⟩)
    · exact Or.inl e2
theorem px_lv_set2 {V : px_V} {ls ls' : Array Slot} {nL n : Nat} {L : px_L} {v : Value} (h : px_lv V ls nL L) (hn : n + 1 < L.length)
    (h' : lv_has ls' nL ((n, px_tv V v) :: (px_al V L).filter (fun q => !(q.1 == n) && (!(q.1 == n + 1) && !(q.1 + 1 == n && q.2.category == 2))))) : px_lv V ls' nL (px_set2 L n v) := by
  refine ⟨h'.1, by unfold px_set2; rw [List.length_set, List.length_set, px_kill_len]; exact h.2.1, h'.2.1, fun i w hi => ?_⟩
  unfold px_set2 at hi
  by_cases e1 : n + 1 = i
  · subst e1
    rw [List.getElem?_set_self (by rw [List.length_set, px_kill_len]; exact hn)] at hi
    cases hi
  rw [List.getElem?_set_ne e1] at hi
  by_cases e : n = i
  · subst e
    rw [List.getElem?_set_self (by rw [px_kill_len]; omega)] at hi
    cases hi
    exact h'.2.2 (n, px_tv V v) List.mem_cons_self
  · rw [List.getElem?_set_ne e] at hi
    obtain ⟨h1, h2⟩ := px_kill_get hi
    refine h'.2.2 (i, px_tv V w) (List.mem_cons_of_mem _ (List.mem_filter.mpr ⟨px_al_mem.mpr ⟨w, h1, rfl⟩, ?_⟩))
    simp only [Bool.and_eq_true, Bool.not_eq_true', beq_eq_false_iff_ne, ne_eq, Bool.and_eq_false_iff, px_tv_cat]
    refine ⟨fun q => e q.symm, fun q => e1 q.symm, ?_⟩
    by_cases e2 : i + 1 = n
    · exact Or.inr (fun q => h2 ⟨e2, q⟩)
    · exact Or.inl e2
/-- an instruction that changes locals and stack -/
theorem px_snd_loc {len : Nat} {f : px_S → Option (Bool × px_S)} (hf : ∀ st st', f st = some (true, st') → st'.2.2 = st.2.2)
    (hw : ∀ (V : px_V) (p : Program) (l : Launch) (e : Env) (R : Room) (s : State) (m : MethodId) (args : Array Value) (below : List Frame) (meth : Method) (c : Code) (H : Heap) (locs : List Loc) (cells slots : Nat) (Q : State → Prop) (ls : Array Slot), p.tables.exec = Jvm.exec → c.code = Y.2.1 → ∀ st st', f st = some (true, st') → px_lv V ls Y.2.2.1 st.1 →
      (∀ ls', px_lv V ls' Y.2.2.1 st'.1 → W p l e R s m args below meth c H locs cells slots Q (F0 m (pc + len) ls' (st'.2.1.map (px_tv V)))) → W p l e R s m args below meth c H locs cells slots Q (F0 m pc ls (st.2.1.map (px_tv V)))) : px_Snd d X Y pc (px_mem f) len := by
  refine px_snd_mem (fun st st' h => ?_) (fun V Γ hy st st' h hle h1 => ?_)
  · rw [hf st st' h]; exact px_le.rf _
  · obtain ⟨p, l, e, R, s, m, args, below, meth, c, n0, z0, r, Q⟩ := Γ
    obtain ⟨hx, hb, -⟩ := hy
    intro H locs ls cells slots h2 h3 h4 h5 h6
    exact hw V p l e R s m args below meth c H locs cells slots Q ls hx hb st st' h h4 (fun ls' h7 => h1 H locs ls' cells slots (by rw [hf st st' h]; exact h2) h3 h7 (by rw [hf st st' h]; exact h5) (by rw [hf st st' h]; exact h6))
theorem sx_istore {n : Nat} (hd : decode Y.2.1 pc = .ok (.istore n, 2)) : px_Snd d X Y pc (px_istore n) 2 := by
  refine px_snd_loc (fun st st' h => ?_) ?_
  · obtain ⟨L, S, G⟩ := st
    match S, h with
    | .int x :: S, h => cases (px_mem_inv h).2; rfl
  · intro V p l e R s m args below meth c H locs cells slots Q ls hx hb st st' h hlv h1
    obtain ⟨L, S, G⟩ := st
    match S, h with
    | .int x :: S, h =>
      have hn := Nat.le_of_ble_eq_true (px_mem_inv h).1
      cases (px_mem_inv h).2
      exact lv_istore hx hb hd (px_lv_has hlv) (by have := hlv.2.1; dsimp only at hn this; omega) rfl (fun ls' h2 => h1 ls' (px_lv_set1 (v := .int x) hlv hn h2))
theorem sx_istore_n {q : Fin 4} {n : Nat} (hd : decode Y.2.1 pc = .ok (.istore_n q, 1)) (hq : (q : Nat) = n) : px_Snd d X Y pc (px_istore n) 1 := by
  refine px_snd_loc (fun st st' h => ?_) ?_
  · obtain ⟨L, S, G⟩ := st
    match S, h with
    | .int x :: S, h => cases (px_mem_inv h).2; rfl
  · intro V p l e R s m args below meth c H locs cells slots Q ls hx hb st st' h hlv h1
    obtain ⟨L, S, G⟩ := st
    match S, h with
    | .int x :: S, h =>
      have hn := Nat.le_of_ble_eq_true (px_mem_inv h).1
      cases (px_mem_inv h).2
      exact lv_istore_n hx hb hd hq (px_lv_has hlv) (by have := hlv.2.1; dsimp only at hn this; omega) rfl (fun ls' h2 => h1 ls' (px_lv_set1 (v := .int x) hlv hn h2))
theorem sx_lstore {n : Nat} (hd : decode Y.2.1 pc = .ok (.lstore n, 2)) : px_Snd d X Y pc (px_lstore n) 2 := by
  refine px_snd_loc (fun st st' h => ?_) ?_
  · obtain ⟨L, S, G⟩ := st
    match S, h with
    | .long x :: S, h => cases (px_mem_inv h).2; rfl
  · intro V p l e R s m args below meth c H locs cells slots Q ls hx hb st st' h hlv h1
    obtain ⟨L, S, G⟩ := st
    match S, h with
    | .long x :: S, h =>
      have hn := Nat.le_of_ble_eq_true (px_mem_inv h).1
      cases (px_mem_inv h).2
      exact lv_lstore hx hb hd (px_lv_has hlv) (by have := hlv.2.1; dsimp only at hn this; omega) rfl (fun ls' h2 => h1 ls' (px_lv_set2 (v := .long x) hlv hn h2))
theorem sx_lstore_n {q : Fin 4} {n : Nat} (hd : decode Y.2.1 pc = .ok (.lstore_n q, 1)) (hq : (q : Nat) = n) : px_Snd d X Y pc (px_lstore n) 1 := by
  refine px_snd_loc (fun st st' h => ?_) ?_
  · obtain ⟨L, S, G⟩ := st
    match S, h with
    | .long x :: S, h => cases (px_mem_inv h).2; rfl
  · intro V p l e R s m args below meth c H locs cells slots Q ls hx hb st st' h hlv h1
    obtain ⟨L, S, G⟩ := st
    match S, h with
    | .long x :: S, h =>
      have hn := Nat.le_of_ble_eq_true (px_mem_inv h).1
      cases (px_mem_inv h).2
      exact lv_lstore_n hx hb hd hq (px_lv_has hlv) (by have := hlv.2.1; dsimp only at hn this; omega) rfl (fun ls' h2 => h1 ls' (px_lv_set2 (v := .long x) hlv hn h2))
theorem sx_astore {n : Nat} (hd : decode Y.2.1 pc = .ok (.astore n, 2)) : px_Snd d X Y pc (px_astore n) 2 := by
  refine px_snd_loc (fun st st' h => ?_) ?_
  · obtain ⟨L, S, G⟩ := st
    match S, h with
    | .ref x :: S, h => cases (px_mem_inv h).2; rfl
    | .null :: S, h => cases (px_mem_inv h).2; rfl
  · intro V p l e R s m args below meth c H locs cells slots Q ls hx hb st st' h hlv h1
    obtain ⟨L, S, G⟩ := st
    match S, h with
    | .ref x :: S, h =>
      have hn := Nat.le_of_ble_eq_true (px_mem_inv h).1
      cases (px_mem_inv h).2
      exact lv_astore hx hb hd (px_lv_has hlv) (by have := hlv.2.1; dsimp only at hn this; omega) rfl (fun ls' h2 => h1 ls' (px_lv_set1 (v := .ref x) hlv hn h2))
    | .null :: S, h =>
      have hn := Nat.le_of_ble_eq_true (px_mem_inv h).1
      cases (px_mem_inv h).2
      exact lv_astoreN hx hb hd (px_lv_has hlv) (by have := hlv.2.1; dsimp only at hn this; omega) rfl (fun ls' h2 => h1 ls' (px_lv_set1 (v := .null) hlv hn h2))
theorem sx_astore_n {q : Fin 4} {n : Nat} (hd : decode Y.2.1 pc = .ok (.astore_n q, 1)) (hq : (q : Nat) = n) : px_Snd d X Y pc (px_astore n) 1 := by
  refine px_snd_loc (fun st st' h => ?_) ?_
  · obtain ⟨L, S, G⟩ := st
    match S, h with
    | .ref x :: S, h => cases (px_mem_inv h).2; rfl
    | .null :: S, h => cases (px_mem_inv h).2; rfl
  · intro V p l e R s m args below meth c H locs cells slots Q ls hx hb st st' h hlv h1
    obtain ⟨L, S, G⟩ := st
    match S, h with
    | .ref x :: S, h =>
      have hn := Nat.le_of_ble_eq_true (px_mem_inv h).1
      cases (px_mem_inv h).2
      exact lv_astore_n hx hb hd hq (px_lv_has hlv) (by have := hlv.2.1; dsimp only at hn this; omega) rfl (fun ls' h2 => h1 ls' (px_lv_set1 (v := .ref x) hlv hn h2))
    | .null :: S, h =>
      have hn := Nat.le_of_ble_eq_true (px_mem_inv h).1
      cases (px_mem_inv h).2
      exact lv_astore_nN hx hb hd hq (px_lv_has hlv) (by have := hlv.2.1; dsimp only at hn this; omega) rfl (fun ls' h2 => h1 ls' (px_lv_set1 (v := .null) hlv hn h2))
theorem sx_iinc {n : Nat} {k : Int} {w : Int32} (hd : decode Y.2.1 pc = .ok (.iinc n k, 3)) (hk : Int32.ofInt k = w) : px_Snd d X Y pc (px_iinc n w) 3 := by
  refine px_snd_loc (fun st st' h => ?_) ?_
  · try dsimp only at h
    split at h
    · cases (px_mem_inv h).2; rfl
    · cases h
  · intro V p l e R s m args below meth c H locs cells slots Q ls hx hb st st' h hlv h1
    try dsimp only at h
    split at h
    · next x hL =>
      cases (px_mem_inv h).2
      have hlt := (List.getElem?_eq_some_iff.mp hL).1
      obtain ⟨i, hi⟩ := List.getElem?_of_mem (px_al_mem (V := V).mpr ⟨_, hL, rfl⟩)
      exact lv_iinc hx hb hd (px_lv_has hlv) hi (by rw [hk]) (by have := hlv.2.1; omega) rfl (fun ls' h2 => h1 ls' (px_lv_set1 (v := .int (x + w)) hlv hlt h2))
    · cases h
end S5
