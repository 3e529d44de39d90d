/-! PART 04: instructions that are sound: constants, locals, arithmetic, branches -/
section S4
variable {d : Nat} {X : px_X} {Y : px_Y} {pc : Nat}
/-- an instruction that changes the stack alone -/
theorem px_snd_stk {len : Nat} {f : px_S → Option (Bool × px_S)} (hf : ∀ st st', f st = some (true, st') → st'.1 = st.1 ∧ st'.2.2 = st.2.2)
    (hw : ∀ (V : px_V) (p : Program) (l : Launch) (e : Env) (R : Room) (s : State) (m : MethodId) (args : Array Value) (below : List Frame) (meth : Method) (c : Code) (H : Heap) (locs : List Loc) (cells slots : Nat) (Q : State → Prop) (ls : Array Slot), p.tables.exec = Jvm.exec → c.code = Y.2.1 → s.vm.findClass Y.1.cls = some m.cls → (∀ w ∈ px_good, w.before args s = true) → px_wk V s s.heap → va_S (px_A V) s.heap H locs → c.maxLocals = ls.size → (9 ≤ R.frames ∧ 576 ≤ R.locals) → (cells ≤ R.cells ∧ slots ≤ R.slots) → ∀ st st', f st = some (true, st') → px_rel V st.2.2 H → px_lv V ls Y.2.2.1 st.1 →
      W p l e R s m args below meth c H locs cells slots Q (F0 m (pc + len) ls (st'.2.1.map (px_tv V))) → W p l e R s m args below meth c H locs cells slots Q (F0 m pc ls (st.2.1.map (px_tv V)))) : px_Snd d X Y pc (px_mem f) len := by
  refine px_snd_mem (fun st st' h => ?_) (fun V Γ hy st st' h hle h1 => ?_)
  · rw [(hf st st' h).2]; exact px_le.rf _
  · obtain ⟨p, l, e, R, s, m, args, below, meth, c, n0, z0, r, Q⟩ := Γ
    obtain ⟨hx, hb, hml, hown, hts, -, -, -, hwk, -, -, hR, hc, hz, -⟩ := hy
    intro H locs ls cells slots h2 h3 h4 h5 h6
    have h7 := h1 H locs ls cells slots (by rw [(hf st st' h).2]; exact h2) h3 (by rw [(hf st st' h).1]; exact h4) (by rw [(hf st st' h).2]; exact h5) (by rw [(hf st st' h).2]; exact h6)
    have hle : px_le st'.2.2 r.2 := hle
    rw [(hf st st' h).2] at hle
    exact hw V p l e R s m args below meth c H locs cells slots Q ls hx hb hown hts hwk h3 (hml.trans h4.1.symm) ⟨by omega, by omega⟩ ⟨by have := hle.1; omega, by have := hle.2; omega⟩ st st' h h2 h4 h7
theorem px_mem_inv {α : Type} {a b : α} {x y : Bool} (h : some (x, a) = some (y, b)) : x = y ∧ a = b := by cases h; exact ⟨rfl, rfl⟩
abbrev px_Row (V : px_V) (Y : px_Y) (pc len : Nat) (S S' : List Value) : Prop := ∀ (p : Program) (l : Launch) (e : Env) (R : Room) (s : State) (m : MethodId) (args : Array Value) (below : List Frame) (meth : Method) (c : Code) (H : Heap) (locs : List Loc) (cells slots : Nat) (Q : State → Prop) (ls : Array Slot), p.tables.exec = Jvm.exec → c.code = Y.2.1 → s.vm.findClass Y.1.cls = some m.cls → (∀ w ∈ px_good, w.before args s = true) → px_wk V s s.heap → va_S (px_A V) s.heap H locs → c.maxLocals = ls.size → (9 ≤ R.frames ∧ 576 ≤ R.locals) → (cells ≤ R.cells ∧ slots ≤ R.slots) →
      W p l e R s m args below meth c H locs cells slots Q (F0 m (pc + len) ls S') → W p l e R s m args below meth c H locs cells slots Q (F0 m pc ls S)
theorem px_snd_push {len : Nat} {v : Value} (row : ∀ (V : px_V) (rest : List Value), px_Row V Y pc len rest (px_tv V v :: rest)) : px_Snd d X Y pc (px_push v) len := by
  refine px_snd_stk (fun st st' h => ?_) ?_
  · cases (px_mem_inv h).2; exact ⟨rfl, rfl⟩
  · intro V p l e R s m args below meth c H locs cells slots Q ls hx hb hown hts hwk hS hml hR hc st st' h _ _ h1
    cases (px_mem_inv h).2
    exact row V (st.2.1.map (px_tv V)) p l e R s m args below meth c H locs cells slots Q ls hx hb hown hts hwk hS hml hR hc h1
theorem px_snd_i2 {g : Int32 → Int32 → Int32} {len : Nat} (row : ∀ (V : px_V) (rest : List Value) (x y : Int32), px_Row V Y pc len (.int y :: .int x :: rest) (.int (g x y) :: rest)) : px_Snd d X Y pc (px_i2 g) len := by
  refine px_snd_stk (fun st st' h => ?_) ?_
  · obtain ⟨L, S, G⟩ := st
    match S, h with
    | .int y :: .int x :: S, h => cases (px_mem_inv h).2; exact ⟨rfl, rfl⟩
  · intro V p l e R s m args below meth c H locs cells slots Q ls hx hb hown hts hwk hS hml hR hc st st' h _ _ h1
    obtain ⟨L, S, G⟩ := st
    match S, h with
    | .int y :: .int x :: S, h =>
      cases (px_mem_inv h).2
      exact row V (S.map (px_tv V)) x y p l e R s m args below meth c H locs cells slots Q ls hx hb hown hts hwk hS hml hR hc h1
theorem px_snd_i2d {g : Int32 → Int32 → Int32} {len : Nat} (row : ∀ (V : px_V) (rest : List Value) (x y : Int32), ¬ y = 0 → px_Row V Y pc len (.int y :: .int x :: rest) (.int (g x y) :: rest)) : px_Snd d X Y pc (px_i2d g) len := by
  refine px_snd_stk (fun st st' h => ?_) ?_
  · obtain ⟨L, S, G⟩ := st
    match S, h with
    | .int y :: .int x :: S, h => cases (px_mem_inv h).2; exact ⟨rfl, rfl⟩
  · intro V p l e R s m args below meth c H locs cells slots Q ls hx hb hown hts hwk hS hml hR hc st st' h _ _ h1
    obtain ⟨L, S, G⟩ := st
    match S, h with
    | .int y :: .int x :: S, h =>
      have hn := (px_mem_inv h).1
      cases (px_mem_inv h).2
      exact row V (S.map (px_tv V)) x y (by simpa using hn) p l e R s m args below meth c H locs cells slots Q ls hx hb hown hts hwk hS hml hR hc h1
theorem px_snd_i1 {g : Int32 → Int32} {len : Nat} (row : ∀ (V : px_V) (rest : List Value) (x : Int32), px_Row V Y pc len (.int x :: rest) (.int (g x) :: rest)) : px_Snd d X Y pc (px_i1 g) len := by
  refine px_snd_stk (fun st st' h => ?_) ?_
  · obtain ⟨L, S, G⟩ := st
    match S, h with
    | .int x :: S, h => cases (px_mem_inv h).2; exact ⟨rfl, rfl⟩
  · intro V p l e R s m args below meth c H locs cells slots Q ls hx hb hown hts hwk hS hml hR hc st st' h _ _ h1
    obtain ⟨L, S, G⟩ := st
    match S, h with
    | .int x :: S, h =>
      cases (px_mem_inv h).2
      exact row V (S.map (px_tv V)) x p l e R s m args below meth c H locs cells slots Q ls hx hb hown hts hwk hS hml hR hc h1
theorem px_snd_l2 {g : Int64 → Int64 → Int64} {len : Nat} (row : ∀ (V : px_V) (rest : List Value) (x y : Int64), px_Row V Y pc len (.long y :: .long x :: rest) (.long (g x y) :: rest)) : px_Snd d X Y pc (px_l2 g) len := by
  refine px_snd_stk (fun st st' h => ?_) ?_
  · obtain ⟨L, S, G⟩ := st
    match S, h with
    | .long y :: .long x :: S, h => cases (px_mem_inv h).2; exact ⟨rfl, rfl⟩
  · intro V p l e R s m args below meth c H locs cells slots Q ls hx hb hown hts hwk hS hml hR hc st st' h _ _ h1
    obtain ⟨L, S, G⟩ := st
    match S, h with
    | .long y :: .long x :: S, h =>
      cases (px_mem_inv h).2
      exact row V (S.map (px_tv V)) x y p l e R s m args below meth c H locs cells slots Q ls hx hb hown hts hwk hS hml hR hc h1
theorem px_snd_l2d {g : Int64 → Int64 → Int64} {len : Nat} (row : ∀ (V : px_V) (rest : List Value) (x y : Int64), ¬ y = 0 → px_Row V Y pc len (.long y :: .long x :: rest) (.long (g x y) :: rest)) : px_Snd d X Y pc (px_l2d g) len := by
  refine px_snd_stk (fun st st' h => ?_) ?_
  · obtain ⟨L, S, G⟩ := st
    match S, h with
    | .long y :: .long x :: S, h => cases (px_mem_inv h).2; exact ⟨rfl, rfl⟩
  · intro V p l e R s m args below meth c H locs cells slots Q ls hx hb hown hts hwk hS hml hR hc st st' h _ _ h1
    obtain ⟨L, S, G⟩ := st
    match S, h with
    | .long y :: .long x :: S, h =>
      have hn := (px_mem_inv h).1
      cases (px_mem_inv h).2
      exact row V (S.map (px_tv V)) x y (by simpa using hn) p l e R s m args below meth c H locs cells slots Q ls hx hb hown hts hwk hS hml hR hc h1
theorem px_snd_lsh {g : Int64 → Int32 → Int64} {len : Nat} (row : ∀ (V : px_V) (rest : List Value) (x : Int64) (y : Int32), px_Row V Y pc len (.int y :: .long x :: rest) (.long (g x y) :: rest)) : px_Snd d X Y pc (px_lsh g) len := by
  refine px_snd_stk (fun st st' h => ?_) ?_
  · obtain ⟨L, S, G⟩ := st
    match S, h with
    | .int y :: .long x :: S, h => cases (px_mem_inv h).2; exact ⟨rfl, rfl⟩
  · intro V p l e R s m args below meth c H locs cells slots Q ls hx hb hown hts hwk hS hml hR hc st st' h _ _ h1
    obtain ⟨L, S, G⟩ := st
    match S, h with
    | .int y :: .long x :: S, h =>
      cases (px_mem_inv h).2
      exact row V (S.map (px_tv V)) x y p l e R s m args below meth c H locs cells slots Q ls hx hb hown hts hwk hS hml hR hc h1
-- constants
theorem sx_iconst {n : Int} {v : Int32} (hd : decode Y.2.1 pc = .ok (.iconst n, 1)) (hv : Int32.ofInt n = v) : px_Snd d X Y pc (px_push (.int v)) 1 := px_snd_push fun V rest p l e R s m args below meth c H locs cells slots Q ls hx hb _ _ _ _ _ _ _ k => lv_iconst hx hb hd hv k
theorem sx_bipush {n : Int} {v : Int32} (hd : decode Y.2.1 pc = .ok (.bipush n, 2)) (hv : (Int8.ofInt n).toInt32 = v) : px_Snd d X Y pc (px_push (.int v)) 2 := px_snd_push fun V rest p l e R s m args below meth c H locs cells slots Q ls hx hb _ _ _ _ _ _ _ k => lv_bipush hx hb hd hv k
theorem sx_sipush {n : Int} {v : Int32} (hd : decode Y.2.1 pc = .ok (.sipush n, 3)) (hv : (Int16.ofInt n).toInt32 = v) : px_Snd d X Y pc (px_push (.int v)) 3 := px_snd_push fun V rest p l e R s m args below meth c H locs cells slots Q ls hx hb _ _ _ _ _ _ _ k => lv_sipush hx hb hd hv k
theorem sx_lconst {n : Fin 2} {v : Int64} (hd : decode Y.2.1 pc = .ok (.lconst n, 1)) (hv : Int64.ofNat (n : Nat) = v) : px_Snd d X Y pc (px_push (.long v)) 1 := px_snd_push fun V rest p l e R s m args below meth c H locs cells slots Q ls hx hb _ _ _ _ _ _ _ k => lv_lconst hx hb hd hv k
theorem sx_null (hd : decode Y.2.1 pc = .ok (.aconst_null, 1)) : px_Snd d X Y pc (px_push .null) 1 := px_snd_push fun V rest p l e R s m args below meth c H locs cells slots Q ls hx hb _ _ _ _ _ _ _ k => lv_null hx hb hd k
theorem sx_ldc {index : Nat} {v : Int32} (hd : decode Y.2.1 pc = .ok (.ldc index, 2)) (hw : Cond.constant Y.1.cls index v ∈ px_good) : px_Snd d X Y pc (px_push (.int v)) 2 := px_snd_push fun V rest p l e R s m args below meth c H locs cells slots Q ls hx hb hown hts _ _ _ _ _ k => lv_ldc hx hb hown (hts _ hw) hd k
theorem sx_ldcw {index : Nat} {v : Int32} (hd : decode Y.2.1 pc = .ok (.ldc_w index, 3)) (hw : Cond.constant Y.1.cls index v ∈ px_good) : px_Snd d X Y pc (px_push (.int v)) 3 := px_snd_push fun V rest p l e R s m args below meth c H locs cells slots Q ls hx hb hown hts _ _ _ _ _ k => lv_ldcw hx hb hown (hts _ hw) hd k
theorem sx_ldc2 {index : Nat} {v : Int64} (hd : decode Y.2.1 pc = .ok (.ldc2_w index, 3)) (hw : Cond.constantLong Y.1.cls index v ∈ px_good) : px_Snd d X Y pc (px_push (.long v)) 3 := px_snd_push fun V rest p l e R s m args below meth c H locs cells slots Q ls hx hb hown hts _ _ _ _ _ k => lv_ldc2 hx hb hown (hts _ hw) hd k
theorem px_ad_ro {V : px_V} {k : Nat} (h : k < 13) : px_ad V k = V.2.1 k := if_pos h
theorem sx_kindAbove {index : Nat} (hd : decode Y.2.1 pc = .ok (.getstatic index, 3)) (hw : Cond.fieldLink Y.1.cls index RX2 "KIND_ABOVE" "[I" ∈ px_good) : px_Snd d X Y pc (px_push (.ref 1)) 3 := px_snd_push fun V rest p l e R s m args below meth c H locs cells slots Q ls hx hb hown hts hwk hS _ _ _ k => va_gets hx hb hwk.2.2.2.2.1 hS hown (hts _ hw) (fun _ h => h) hd k
theorem sx_weeks {index : Nat} (hd : decode Y.2.1 pc = .ok (.getstatic index, 3)) (hw : Cond.fieldLink Y.1.cls index RX2 "WEEKS" "[I" ∈ px_good) : px_Snd d X Y pc (px_push (.ref 2)) 3 := px_snd_push fun V rest p l e R s m args below meth c H locs cells slots Q ls hx hb hown hts hwk hS _ _ _ k => va_gets hx hb hwk.2.2.2.2.2.1 hS hown (hts _ hw) (fun _ h => h) hd k
theorem sx_ldcS {i index : Nat} {tx : String} (hi : px_tx[i]? = some (index, tx)) (hd : decode Y.2.1 pc = .ok (.ldc index, 2)) (hY : Y.1.cls = RX5) (h13 : 3 + i < 13) : px_Snd d X Y pc (px_push (.ref (3 + i))) 2 := px_snd_push fun V rest p l e R s m args below meth c H locs cells slots Q ls hx hb hown hts hwk hS _ _ _ k => va_ldcS hx hb (by rw [← hY]; exact hown) (hwk.2.2.2.2.2.2.1 i _ hi) hd (by rw [← px_ad_ro (V := V) h13]; exact k)
-- arithmetic
theorem sx_iadd (hd : decode Y.2.1 pc = .ok (.iadd, 1)) : px_Snd d X Y pc (px_i2 fun x y => x + y) 1 := px_snd_i2 fun V rest x y p l e R s m args below meth c H locs cells slots Q ls hx hb _ _ _ _ _ _ _ k => lv_iadd hx hb hd k
theorem sx_isub (hd : decode Y.2.1 pc = .ok (.isub, 1)) : px_Snd d X Y pc (px_i2 fun x y => x - y) 1 := px_snd_i2 fun V rest x y p l e R s m args below meth c H locs cells slots Q ls hx hb _ _ _ _ _ _ _ k => lv_isub hx hb hd k
theorem sx_imul (hd : decode Y.2.1 pc = .ok (.imul, 1)) : px_Snd d X Y pc (px_i2 fun x y => x * y) 1 := px_snd_i2 fun V rest x y p l e R s m args below meth c H locs cells slots Q ls hx hb _ _ _ _ _ _ _ k => lv_imul hx hb hd k
theorem sx_iand (hd : decode Y.2.1 pc = .ok (.iand, 1)) : px_Snd d X Y pc (px_i2 fun x y => x &&& y) 1 := px_snd_i2 fun V rest x y p l e R s m args below meth c H locs cells slots Q ls hx hb _ _ _ _ _ _ _ k => lv_iand hx hb hd k
theorem sx_ishl (hd : decode Y.2.1 pc = .ok (.ishl, 1)) : px_Snd d X Y pc (px_i2 fun x y => x <<< (y &&& 31)) 1 := px_snd_i2 fun V rest x y p l e R s m args below meth c H locs cells slots Q ls hx hb _ _ _ _ _ _ _ k => lv_ishl hx hb hd k
theorem sx_ishr (hd : decode Y.2.1 pc = .ok (.ishr, 1)) : px_Snd d X Y pc (px_i2 fun x y => x >>> (y &&& 31)) 1 := px_snd_i2 fun V rest x y p l e R s m args below meth c H locs cells slots Q ls hx hb _ _ _ _ _ _ _ k => lv_ishr hx hb hd k
theorem sx_idiv (hd : decode Y.2.1 pc = .ok (.idiv, 1)) : px_Snd d X Y pc (px_i2d fun x y => x / y) 1 := px_snd_i2d fun V rest x y hn p l e R s m args below meth c H locs cells slots Q ls hx hb _ _ _ _ _ _ _ k => lv_idiv hx hb hd hn k
theorem sx_irem (hd : decode Y.2.1 pc = .ok (.irem, 1)) : px_Snd d X Y pc (px_i2d fun x y => x - x / y * y) 1 := px_snd_i2d fun V rest x y hn p l e R s m args below meth c H locs cells slots Q ls hx hb _ _ _ _ _ _ _ k => lv_irem hx hb hd hn k
theorem sx_ineg (hd : decode Y.2.1 pc = .ok (.ineg, 1)) : px_Snd d X Y pc (px_i1 fun x => -x) 1 := px_snd_i1 fun V rest x p l e R s m args below meth c H locs cells slots Q ls hx hb _ _ _ _ _ _ _ k => lv_ineg hx hb hd k
theorem sx_i2b (hd : decode Y.2.1 pc = .ok (.i2b, 1)) : px_Snd d X Y pc (px_i1 fun x => x.toInt8.toInt32) 1 := px_snd_i1 fun V rest x p l e R s m args below meth c H locs cells slots Q ls hx hb _ _ _ _ _ _ _ k => lv_i2b hx hb hd rfl k
theorem sx_i2s (hd : decode Y.2.1 pc = .ok (.i2s, 1)) : px_Snd d X Y pc (px_i1 fun x => x.toInt16.toInt32) 1 := px_snd_i1 fun V rest x p l e R s m args below meth c H locs cells slots Q ls hx hb _ _ _ _ _ _ _ k => lv_i2s hx hb hd rfl k
theorem sx_ladd (hd : decode Y.2.1 pc = .ok (.ladd, 1)) : px_Snd d X Y pc (px_l2 fun x y => x + y) 1 := px_snd_l2 fun V rest x y p l e R s m args below meth c H locs cells slots Q ls hx hb _ _ _ _ _ _ _ k => lv_ladd hx hb hd k
theorem sx_lsub (hd : decode Y.2.1 pc = .ok (.lsub, 1)) : px_Snd d X Y pc (px_l2 fun x y => x - y) 1 := px_snd_l2 fun V rest x y p l e R s m args below meth c H locs cells slots Q ls hx hb _ _ _ _ _ _ _ k => lv_lsub hx hb hd k
theorem sx_lmul (hd : decode Y.2.1 pc = .ok (.lmul, 1)) : px_Snd d X Y pc (px_l2 fun x y => x * y) 1 := px_snd_l2 fun V rest x y p l e R s m args below meth c H locs cells slots Q ls hx hb _ _ _ _ _ _ _ k => lv_lmul hx hb hd k
theorem sx_land (hd : decode Y.2.1 pc = .ok (.land, 1)) : px_Snd d X Y pc (px_l2 fun x y => x &&& y) 1 := px_snd_l2 fun V rest x y p l e R s m args below meth c H locs cells slots Q ls hx hb _ _ _ _ _ _ _ k => lv_land hx hb hd k
theorem sx_lor (hd : decode Y.2.1 pc = .ok (.lor, 1)) : px_Snd d X Y pc (px_l2 fun x y => x ||| y) 1 := px_snd_l2 fun V rest x y p l e R s m args below meth c H locs cells slots Q ls hx hb _ _ _ _ _ _ _ k => lv_lor hx hb hd k
theorem sx_ldiv (hd : decode Y.2.1 pc = .ok (.ldiv, 1)) : px_Snd d X Y pc (px_l2d fun x y => x / y) 1 := px_snd_l2d fun V rest x y hn p l e R s m args below meth c H locs cells slots Q ls hx hb _ _ _ _ _ _ _ k => lv_ldiv hx hb hd hn k
theorem sx_lshl (hd : decode Y.2.1 pc = .ok (.lshl, 1)) : px_Snd d X Y pc (px_lsh fun x y => x <<< (y.toInt64 &&& 63)) 1 := px_snd_lsh fun V rest x y p l e R s m args below meth c H locs cells slots Q ls hx hb _ _ _ _ _ _ _ k => lv_lshl hx hb hd rfl k
theorem sx_lshr (hd : decode Y.2.1 pc = .ok (.lshr, 1)) : px_Snd d X Y pc (px_lsh fun x y => x >>> (y.toInt64 &&& 63)) 1 := px_snd_lsh fun V rest x y p l e R s m args below meth c H locs cells slots Q ls hx hb _ _ _ _ _ _ _ k => lv_lshr hx hb hd rfl k
theorem sx_lushr (hd : decode Y.2.1 pc = .ok (.lushr, 1)) : px_Snd d X Y pc (px_lsh fun x y => (x.toUInt64 >>> (y.toInt64.toUInt64 &&& Int64.toUInt64 63)).toInt64) 1 := px_snd_lsh fun V rest x y p l e R s m args below meth c H locs cells slots Q ls hx hb _ _ _ _ _ _ _ k => lv_lushr hx hb hd rfl k
end S4
