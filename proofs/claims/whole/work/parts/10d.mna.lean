/-! rows of rows made at once: the library's law for it is out of reach in rounds; here for what px_mna needs -/
def mn_in (cm : ClassId) (M : Nat) : Cell := { cls := cm, slots := Array.replicate M (.int 0), vm := .none }
def mn_out (c : ClassId) (N h0 : Nat) : Nat → Cell
  | 0 => { cls := c, slots := Array.replicate N .null, vm := .none }
  | i + 1 => (mn_out c N h0 i).setSlot i (.ref (h0 + 1 + i))
def mn_st (s : State) (c cm : ClassId) (N M : Nat) : Nat → State
  | 0 => s.pushCell (mn_out c N s.heap.size 0)
  | i + 1 => ((mn_st s c cm N M i).pushCell (mn_in cm M)).setCell s.heap.size (mn_out c N s.heap.size (i + 1))
theorem mn_out_f (c : ClassId) (N h0 : Nat) : ∀ i, (mn_out c N h0 i).cls = c ∧ (mn_out c N h0 i).vm = .none ∧ (mn_out c N h0 i).slots.size = N
  | 0 => ⟨rfl, rfl, by simp [mn_out]⟩
  | i + 1 => by
    obtain ⟨a, b, d⟩ := mn_out_f c N h0 i
    exact ⟨by simp [mn_out, Cell.setSlot, a], by simp [mn_out, Cell.setSlot, b], by simp [mn_out, Cell.setSlot, d]⟩
theorem mn_st_f (s : State) (c cm : ClassId) (N M : Nat) : ∀ i, (mn_st s c cm N M i).heap.size = s.heap.size + 1 + i ∧ (mn_st s c cm N M i).heap[s.heap.size]? = some (mn_out c N s.heap.size i) ∧ (mn_st s c cm N M i).vm = s.vm ∧ (mn_st s c cm N M i).slotsUsed = s.slotsUsed + N + i * M
  | 0 => ⟨by simp [mn_st], by simp [mn_st], rfl, by simp [mn_st, mn_out]⟩
  | i + 1 => by
    obtain ⟨a, b, d, u⟩ := mn_st_f s c cm N M i
    have hlt : s.heap.size < (mn_st s c cm N M i).heap.size := by omega
    have hb' : ((mn_st s c cm N M i).pushCell (mn_in cm M)).heap[s.heap.size]? = some (mn_out c N s.heap.size i) := by rw [State.heap_pushCell_of_lt (h := hlt)]; exact b
    refine ⟨?_, State.heap_setCell_self hb', by simp [mn_st, d], ?_⟩
    · simp [mn_st, State.setCell, a]; omega
    · simp [mn_st, u, mn_in, Nat.succ_mul]; omega
theorem mn_st_top (s : State) (f : JFrame) (c cm : ClassId) (N M : Nat) : ∀ i, mn_st (s.setTop f) c cm N M i = (mn_st s c cm N M i).setTop f
  | 0 => rfl
  | i + 1 => by simp only [mn_st, mn_st_top s f c cm N M i, State.heap_setTop, State.pushCell_setTop, State.setCell_setTop]
theorem mn_st_old (s : State) (c cm : ClassId) (N M : Nat) {a : Addr} (ha : a < s.heap.size) : ∀ i, (mn_st s c cm N M i).heap[a]? = s.heap[a]?
  | 0 => State.heap_pushCell_of_lt _ _ ha
  | i + 1 => by
    have f1 := (mn_st_f s c cm N M i).1
    have hlt : a < (mn_st s c cm N M i).heap.size := Nat.lt_of_lt_of_le ha (by rw [f1]; omega)
    show (((mn_st s c cm N M i).pushCell (mn_in cm M)).setCell s.heap.size _).heap[a]? = _
    rw [State.heap_setCell_other (Nat.ne_of_gt ha), State.heap_pushCell_of_lt (h := hlt)]
    exact mn_st_old s c cm N M ha i
theorem mn_st_in (s : State) (c cm : ClassId) (N M : Nat) : ∀ i j, j < i → (mn_st s c cm N M i).heap[s.heap.size + 1 + j]? = some (mn_in cm M)
  | 0, _, h => absurd h (Nat.not_lt_zero _)
  | i + 1, j, h => by
    have f1 := (mn_st_f s c cm N M i).1
    show (((mn_st s c cm N M i).pushCell (mn_in cm M)).setCell s.heap.size _).heap[s.heap.size + 1 + j]? = _
    rw [State.heap_setCell_other (show s.heap.size ≠ s.heap.size + 1 + j by omega)]
    rcases Nat.lt_or_ge j i with hj | hj
    · have hlt : s.heap.size + 1 + j < (mn_st s c cm N M i).heap.size := by rw [f1]; omega
      rw [State.heap_pushCell_of_lt (h := hlt)]
      exact mn_st_in s c cm N M i j hj
    · have e : j = i := by omega
      subst e
      rw [← f1]
      exact State.heap_pushCell_size _ _
theorem mn_out_eq (c : ClassId) (N h0 : Nat) : ∀ i : Nat, mn_out c N h0 i = arrV c N (fun j => va_rf (if j < i then some (h0 + 1 + j) else none))
  | 0 => by
    show ({ cls := c, slots := Array.replicate N .null, vm := .none } : Cell) = _
    rw [arrV_new]
    refine congrArg (arrV c N) (funext fun j => ?_)
    simp [va_rf]
  | i + 1 => by
    show (mn_out c N h0 i).setSlot i (.ref (h0 + 1 + i)) = _
    rw [mn_out_eq c N h0 i, arrV_store]
    refine congrArg (arrV c N) (funext fun j => ?_)
    by_cases e : j = i
    · subst e
      simp [updV, va_rf]
    · by_cases h : j < i
      · simp [updV, e, h, Nat.lt_succ_of_lt h]
      · simp [updV, e, h, show ¬ j < i + 1 by omega]
section MN
variable {E : CtlPost} {e : Env} {d : Bool} {acts : List Action} {s : State}
theorem mn_new {c cm : ClassId} {k : Class} {type : FieldType} {len : Nat} {init : Value} (hk : s.vm.classes[c]? = some k) (hkind : k.kind = .array cm type) (hlimit : ¬ len > e.platform.arrayLengthLimit) (hheap : ¬ len * componentBytes type > e.platform.maxHeapBytes) (hfit : fits type init = true) (hdef : init.isDefault = true) {Q : Addr → Pre}
    (h1 : s.heap.size < e.platform.maxCells) (h2 : s.slotsUsed + len ≤ e.platform.maxSlots) (hq : Q s.heap.size d acts (s.pushCell { cls := c, slots := Array.replicate len init, vm := .none })) : wp (Jvm.newArray c len init) Q E e d acts s := by
  have hfits : ∀ i v, (Array.replicate len init)[i]? = some v → s.fitsSlot c .none i v = true := by
    intro i v hv
    simp only [Array.getElem?_replicate] at hv
    split at hv
    · cases hv; simp [State.fitsSlot, State.slotType?, hk, hkind, hfit]
    · cases hv
  have hda : allocActs (Array.replicate len init) s.heap.size acts = acts := by
    have hall : ((Array.replicate len init).all (·.isDefault)) = true := by
      rw [Array.all_replicate]; split <;> simp [hdef]
    unfold allocActs; rw [if_pos hall]
  simp only [Jvm.newArray, Jvm.arrayFits, wp_bind', W.ask, W.ite, hlimit, if_false, wp_pure', W.theClass, hk, hkind, hheap, W.alloc, W.stop, Option.some.injEq, exists_eq_left', Array.size_replicate, hda]
  rw [if_neg (by omega)]
  exact ⟨h1, h2, hfits, hq⟩
theorem mn_make1 {cm cc : ClassId} {kc : Class} {m : Int32} (hkc : s.vm.classes[cm]? = some kc) (hkindc : kc.kind = .array cc .int) (hm : ¬ m < 0) (hl2 : ¬ m.toNatClampNeg > e.platform.arrayLengthLimit) (hh2 : ¬ m.toNatClampNeg * componentBytes .int > e.platform.maxHeapBytes)
    (h1 : s.heap.size < e.platform.maxCells) (h2 : s.slotsUsed + m.toNatClampNeg ≤ e.platform.maxSlots) {Q : Addr → Pre} (hq : Q s.heap.size d acts (s.pushCell (mn_in cm m.toNatClampNeg))) : wp (Op.multianewarray.make cm [m]) Q E e d acts s := by
  rw [Op.multianewarray.make]
  simp only [wp_bind', W.ite, hm, if_false, wp_pure', W.theClass, hkc, hkindc, Option.some.injEq, exists_eq_left']
  exact mn_new hkc hkindc hl2 hh2 rfl rfl h1 h2 hq
theorem mn_make2 {c cm cc : ClassId} {k kc : Class} {n m : Int32} (hk : s.vm.classes[c]? = some k) (hkind : k.kind = .array cm (.array .int)) (hkc : s.vm.classes[cm]? = some kc) (hkindc : kc.kind = .array cc .int) (hn : ¬ n < 0) (hm : ¬ m < 0)
    (hl1 : ¬ n.toNatClampNeg > e.platform.arrayLengthLimit) (hh1 : ¬ n.toNatClampNeg * componentBytes (.array .int) > e.platform.maxHeapBytes) (hl2 : ¬ m.toNatClampNeg > e.platform.arrayLengthLimit) (hh2 : ¬ m.toNatClampNeg * componentBytes .int > e.platform.maxHeapBytes)
    (hc : s.heap.size + 1 + n.toNatClampNeg ≤ e.platform.maxCells) (hs : s.slotsUsed + n.toNatClampNeg + n.toNatClampNeg * m.toNatClampNeg ≤ e.platform.maxSlots) {Q : Addr → Pre} (hq : ∀ d' acts', Q s.heap.size d' acts' (mn_st s c cm n.toNatClampNeg m.toNatClampNeg n.toNatClampNeg)) : wp (Op.multianewarray.make c [n, m]) Q E e d acts s := by
  have hfind : ([m].find? (· < 0)) = none := by simp [hm]
  rw [Op.multianewarray.make]
  simp only [wp_bind', W.ite, hn, if_false, wp_pure', W.theClass, hk, hkind, Option.some.injEq, exists_eq_left']
  refine mn_new hk hkind hl1 hh1 rfl rfl (by omega) (by have := Nat.zero_le (n.toNatClampNeg * m.toNatClampNeg); omega) ?_
  simp only [hfind]
  rw [ite_self, wp_bind', Std.Legacy.Range.forIn_eq_forIn_range']
  have hsz : ([:n.toNatClampNeg] : Std.Legacy.Range).size = n.toNatClampNeg := by simp [Std.Legacy.Range.size]
  rw [hsz]
  show wp (forIn (List.range' 0 n.toNatClampNeg 1) PUnit.unit _) _ E e d acts _
  refine wp_forIn_inv (fun rest s' => ∃ i, i ≤ n.toNatClampNeg ∧ rest = List.range' i (n.toNatClampNeg - i) ∧ s' = mn_st s c cm n.toNatClampNeg m.toNatClampNeg i) _ _ ⟨0, Nat.zero_le _, rfl, rfl⟩ ?_ ?_
  · rintro x rest s' d' acts' Q' ⟨i, hi, hl, rfl⟩ hnext
    have hlt : i < n.toNatClampNeg := by
      rcases Nat.lt_or_ge i n.toNatClampNeg with h | h
      · exact h
      · rw [show n.toNatClampNeg - i = 0 from by omega] at hl; simp at hl
    obtain ⟨rfl, hrest⟩ : x = i ∧ rest = List.range' (i + 1) (n.toNatClampNeg - (i + 1)) := by
      rw [show n.toNatClampNeg - i = (n.toNatClampNeg - (i + 1)) + 1 from by omega, List.range'_succ] at hl
      exact ⟨(List.cons.inj hl).1, (List.cons.inj hl).2⟩
    obtain ⟨f1, f2, f3, f4⟩ := mn_st_f s c cm n.toNatClampNeg m.toNatClampNeg x
    obtain ⟨o1, o2, o3⟩ := mn_out_f c n.toNatClampNeg s.heap.size x
    have hmul : x * m.toNatClampNeg + m.toNatClampNeg ≤ n.toNatClampNeg * m.toNatClampNeg := by
      have := Nat.mul_le_mul_right m.toNatClampNeg (show x + 1 ≤ n.toNatClampNeg from hlt)
      rw [Nat.succ_mul] at this; exact this
    simp only [wp_bind']
    refine mn_make1 (by rw [f3]; exact hkc) hkindc hm hl2 hh2 (by rw [f1]; omega) (by rw [f4]; omega) ?_
    have hlt0 : s.heap.size < (mn_st s c cm n.toNatClampNeg m.toNatClampNeg x).heap.size := by rw [f1]; omega
    simp only [wp_bind', W.writeLoc, wp_pure']
    refine ⟨mn_out c n.toNatClampNeg s.heap.size x, by rw [State.heap_pushCell_of_lt (h := hlt0)]; exact f2, by rw [o2]; simp, by rw [o3]; exact hlt, ?_, hnext _ _ _ ⟨x + 1, hlt, hrest, ?_⟩⟩
    · rw [o1, o2]
      simp [State.fitsSlot, State.slotType?, f3, hk, hkind, fits]
    · rw [f1]; rfl
  · rintro s' d' acts' ⟨i, hi, hl, rfl⟩
    have hiN : i = n.toNatClampNeg := by
      rcases Nat.lt_or_ge i n.toNatClampNeg with h | h
      · rw [show n.toNatClampNeg - i = (n.toNatClampNeg - (i + 1)) + 1 from by omega, List.range'_succ] at hl; cases hl
      · omega
    subst hiN
    simp only [wp_pure']
    exact hq _ _
end MN
section MN2
variable {p : Program} {l : Launch} {e : Env} {R : Room} {s : State} {m : MethodId} {args : Array Value} {below : List Frame} {meth : Method} {c : Code} {T : State} {locs : List Loc} {cells slots : Nat}
theorem mn_stand (X : Stand p l e R s m args below meth c T locs cells slots) (cA cm : ClassId) (N M : Nat) : ∀ i, Stand p l e R s m args below meth c (mn_st T cA cm N M i) (locs ++ (List.range i).map fun j => ⟨T.heap.size, j⟩) (cells + 1 + i) (slots + N + i * M)
  | 0 => by
    have h := X.pushed (mn_out cA N T.heap.size 0)
    rw [(mn_out_f cA N T.heap.size 0).2.2] at h
    simpa [mn_st] using h
  | i + 1 => by
    have Xi := mn_stand X cA cm N M i
    obtain ⟨f1, f2, f3, f4⟩ := mn_st_f T cA cm N M i
    have hlt0 : T.heap.size < (mn_st T cA cm N M i).heap.size := by rw [f1]; omega
    have hcell : ((mn_st T cA cm N M i).pushCell (mn_in cm M)).heap[T.heap.size]? = some (mn_out cA N T.heap.size i) := by rw [State.heap_pushCell_of_lt (h := hlt0)]; exact f2
    have h := (Xi.pushed (mn_in cm M)).stored hcell i (.ref (T.heap.size + 1 + i))
    have e1 : (mn_in cm M).slots.size = M := by simp [mn_in]
    rw [e1] at h
    have e2 : (locs ++ (List.range (i + 1)).map fun j => (⟨T.heap.size, j⟩ : Loc)) = (locs ++ (List.range i).map fun j => (⟨T.heap.size, j⟩ : Loc)) ++ [⟨T.heap.size, i⟩] := by simp [List.range_succ, List.append_assoc]
    have e3 : slots + N + (i + 1) * M = slots + N + i * M + M := by rw [Nat.succ_mul]; omega
    rw [e2, e3]
    exact h
theorem mn_go (X : Stand p l e R s m args below meth c T locs cells slots) (hexec : p.tables.exec = Jvm.exec) {own : String} {index : Nat} (hown : s.vm.findClass own = some m.cls) (hclink : (Cond.classLink own index "[[I").before args s = true)
    {cA cm cc : ClassId} {kA kC : Class} (hnameA : s.vm.findClass "[[I" = some cA) (hkA : s.vm.classes[cA]? = some kA) (hkindA : kA.kind = .array cm (.array .int)) (hkC : s.vm.classes[cm]? = some kC) (hkindC : kC.kind = .array cc .int)
    {g : JFrame} (hg : g.method = m) (hdg : decode c.code g.pc = .ok (.multianewarray index 2, 4)) {n k : Int32} {rest : List Value} (hstack : g.stack = .int k :: .int n :: rest) (hn : ¬ n < 0) (hk : ¬ k < 0) (hb1 : n.toNatClampNeg ≤ 1000) (hb2 : k.toNatClampNeg ≤ 1000)
    (hcells : cells + (1 + n.toNatClampNeg) ≤ R.cells) (hslots : slots + (n.toNatClampNeg + n.toNatClampNeg * k.toNatClampNeg) ≤ R.slots) :
    ∃ vm₁ : Vm, Stand p l e R s m args below meth c (mn_st (T.setVm vm₁) cA cm n.toNatClampNeg k.toNatClampNeg n.toNatClampNeg) (locs ++ (List.range n.toNatClampNeg).map fun j => ⟨T.heap.size, j⟩) (cells + 1 + n.toNatClampNeg) (slots + n.toNatClampNeg + n.toNatClampNeg * k.toNatClampNeg) ∧
      ∀ target, Steps p.tables e below ((mn_st (T.setVm vm₁) cA cm n.toNatClampNeg k.toNatClampNeg n.toNatClampNeg).setTop { g with pc := g.pc + 4, stack := .ref T.heap.size :: rest }) target → Steps p.tables e below (T.setTop g) target := by
  subst hg
  have hpl : e.platform.magicAccessors = ({} : Platform).magicAccessors := by rw [X.admits.platform]
  obtain ⟨c0, hfc0, hcl⟩ := Cond.classLink_spec hown hclink e.platform hpl
  cases hnameA.symm.trans hfc0
  obtain ⟨hg₁, hwarm₁, hready₁⟩ := State.classEntry (e := e) X.warmed hcl
  generalize T.vm.noted g.method.cls index (.cls cA) = vm₁ at hg₁ hwarm₁ hready₁
  have hal : s.vm.Alike vm₁ := hwarm₁.alike
  obtain ⟨kA₁, hkA₁, heA⟩ := hal.2.2 _ _ hkA
  obtain ⟨kC₁, hkC₁, heC⟩ := hal.2.2 _ _ hkC
  have hkindA₁ : kA₁.kind = .array cm (.array .int) := by rw [heA]; exact hkindA
  have hkindC₁ : kC₁.kind = .array cc .int := by rw [heC]; exact hkindC
  have X₁ := X.noted hwarm₁
  obtain ⟨hr1, hr2⟩ := X.roomAbove hcells hslots
  refine ⟨vm₁, mn_stand X₁ cA cm _ _ _, fun target hrest => ?_⟩
  have hl1 : ¬ n.toNatClampNeg > e.platform.arrayLengthLimit := by rw [Launch.admits_arrayLengthLimit X.admits]; omega
  have hh1 : ¬ n.toNatClampNeg * componentBytes (.array .int) > e.platform.maxHeapBytes := by
    rw [Launch.admits_maxHeapBytes X.admits]; show ¬ n.toNatClampNeg * 4 > 536870912; omega
  have hl2 : ¬ k.toNatClampNeg > e.platform.arrayLengthLimit := by rw [Launch.admits_arrayLengthLimit X.admits]; omega
  have hh2 : ¬ k.toNatClampNeg * componentBytes .int > e.platform.maxHeapBytes := by
    rw [Launch.admits_maxHeapBytes X.admits]; show ¬ k.toNatClampNeg * 4 > 536870912; omega
  jvm_step X.here [hexec, hdg]
  simp only [Op.multianewarray.sem, wp_bind', W.resolveClassAt_links (State.method?_setTop g X.here.top) hg₁]
  rw [W.popN, if_neg (by decide)]
  refine ⟨g, State.topJava?_setTop' (s := T.setVm vm₁) g X.here.top, [.int n, .int k], rest, rfl, hstack, ?_⟩
  simp only [List.mapM_cons, List.mapM_nil, wp_bind', wp_pure']
  refine mn_make2 (k := kA₁) (kc := kC₁) (cm := cm) (cc := cc) hkA₁ hkindA₁ hkC₁ hkindC₁ hn hk hl1 hh1 hl2 hh2 (by show T.heap.size + 1 + _ ≤ _; omega) (by show T.slotsUsed + _ + _ ≤ _; omega) (fun d' acts' => ?_)
  have XF := mn_stand X₁ cA cm n.toNatClampNeg k.toNatClampNeg n.toNatClampNeg
  have eS : ((T.setTop g).setVm vm₁).setTop { g with stack := rest } = (T.setVm vm₁).setTop { g with stack := rest } := by
    show ((T.setVm vm₁).setTop g).setTop _ = _
    rw [State.setTop_setTop]
  rw [eS, mn_st_top]
  simp only [wp_bind', W.mark, W.pushRef, State.topJava?_setTop' _ XF.here.top, Option.some.injEq, exists_eq_left', State.setTop_setTop, State.heap_setTop]
  intro acts
  simp [jvm, XF.here.top]
  exact hrest
end MN2
section MN3
variable {d : Nat} {X : px_X} {Y : px_Y} {pc : Nat}
theorem sx_mna {index : Nat} (hd : decode Y.2.1 pc = .ok (.multianewarray index 2, 4)) (h1 : Cond.classLink Y.1.cls index "[[I" ∈ px_good) (h2 : Cond.arrayClass .int ∈ px_good) : px_Snd d X Y pc px_mna 4 := by
  refine px_snd_mem (fun st st' h => ?_) (fun V Γ hy st st' h hle k => ?_)
  · obtain ⟨L, S, G⟩ := st
    match S, h with
    | .int kk :: .int n :: S, h =>
      cases (px_mem_inv h).2
      exact px_le_app _ _
  · obtain ⟨p, l, e, R, s, m, args, below, meth, c, n0, z0, r, Q⟩ := Γ
    obtain ⟨hx, hb, hml, hown, hts, -, -, -, hwk, hbs, hn0, hR, hc, hz, -⟩ := hy
    obtain ⟨L, S, G⟩ := st
    match S, h with
    | .int kk :: .int n :: S, h =>
      have hn := (px_mem_inv h).1
      simp only [Bool.and_eq_true, Bool.not_eq_true', decide_eq_false_iff_not] at hn
      obtain ⟨⟨g1, g2⟩, g3, g4⟩ := hn
      have g3 := Nat.le_of_ble_eq_true g3
      have g4 := Nat.le_of_ble_eq_true g4
      cases (px_mem_inv h).2
      generalize hN : n.toNatClampNeg = N at *
      generalize hM : kk.toNatClampNeg = M at *
      intro H locs ls cells slots q2 q3 q4 q5 q6
      dsimp only at q2 q4 q5 q6
      have hle : px_le (G ++ (.inl (5, N, .inr (.inr (.inr (.inr (fun i => if i < N then some (G.length + 1 + i) else none))))) :: List.replicate N (.inl (0, M, .inl (fun _ => 0))))) r.2 := hle
      have hszr : px_sz (List.replicate N (.inl (0, M, .inl (fun _ => 0)) : va_E)) = N * M := by
        unfold px_sz
        rw [List.map_replicate, List.sum_replicate_nat]
        rfl
      have hsz : px_sz (G ++ (.inl (5, N, .inr (.inr (.inr (.inr (fun i => if i < N then some (G.length + 1 + i) else none))))) :: List.replicate N (.inl (0, M, .inl (fun _ => 0))))) = px_sz G + (N + N * M) := by
        rw [px_sz_app, ← hszr]
        rfl
      obtain ⟨l1, l2⟩ := hle
      rw [hsz] at l2
      simp only [List.length_append, List.length_cons, List.length_replicate] at l1
      refine px_sized fun hs => ?_
      have hH := px_heapEq q2 q3 hbs hn0 q5 hs
      obtain ⟨kA, hkA, hkindA⟩ := hwk.2.2.2.2.2.2.2.2.2.2.2.2.1
      have hnA : s.vm.findClass "[[I" = some (V.2.2.2.1 5) := (hwk.1.2 5 _ rfl).2
      obtain ⟨-, kC, hkC, cc, hkindC⟩ := (hwk.1.2 0 _ rfl).1 0 (fun _ => .null)
      intro T hT Xs
      obtain ⟨vm₁, X', st⟩ := mn_go Xs hx hown (hts _ h1) hnA hkA hkindA hkC hkindC (g := F0 m pc ls (.int kk :: .int n :: S.map (px_tv V))) rfl (by rw [hb]; exact hd) rfl g1 g2 (by omega) (by omega) (by rw [hN]; omega) (by rw [hN, hM]; omega)
      rw [hN, hM] at X' st
      obtain ⟨f1, f2, -, -⟩ := mn_st_f (T.setVm vm₁) (V.2.2.2.1 5) (V.2.2.2.1 0) N M N
      have fo := fun (x : Nat) (hxl : x < H.size) => mn_st_old (T.setVm vm₁) (V.2.2.2.1 5) (V.2.2.2.1 0) N M (a := x) (by show x < T.heap.size; rw [hT]; exact hxl) N
      have fi := mn_st_in (T.setVm vm₁) (V.2.2.2.1 5) (V.2.2.2.1 0) N M N
      have hTh : (T.setVm vm₁).heap = H := hT
      generalize hF : mn_st (T.setVm vm₁) (V.2.2.2.1 5) (V.2.2.2.1 0) N M N = F at X' st f1 f2 fo fi
      rw [hTh] at f1 f2
      simp only [hTh] at fo fi
      have hT2 : T.heap.size = H.size := by rw [hT]
      rw [hT2] at X' st
      have hrel : px_rel V (G ++ (.inl (5, N, .inr (.inr (.inr (.inr (fun i => if i < N then some (G.length + 1 + i) else none))))) :: List.replicate N (.inl (0, M, .inl (fun _ => 0))))) F.heap := by
        refine ⟨fun k hk => ?_, by simp; have := q2.2.1; omega, ?_⟩
        · rw [List.getElem?_append_left (by have := q2.2.1; omega)]
          exact q2.1 k hk
        · rw [px_img_app q2.2.1]
          refine va_P.app (q2.2.2.kept (fun k x hx => fo x.1 ((q2.2.2 k x hx).lt))) ?_
          intro k x hx
          rw [List.getElem?_mapIdx] at hx
          match k, hx with
          | 0, hx =>
            cases hx
            show F.heap[V.1 + (G.length - 13) + 0]? = some (vp_cell _ _)
            rw [show V.1 + (G.length - 13) + 0 = H.size by have := q2.2.1; omega, f2, mn_out_eq, vp_cell_q]
            refine congrArg (fun f => some (arrV _ N f)) (funext fun j => ?_)
            by_cases hj : j < N
            · simp only [hj, if_true, Option.map_some]
              have : px_ad V (G.length + 1 + j) = H.size + 1 + j := by unfold px_ad; rw [if_neg (by have := q2.2.1; omega)]; have := q2.2.1; omega
              rw [this]
            · simp only [hj, if_false, Option.map_none]
          | k + 1, hx =>
            rw [List.getElem?_cons_succ, List.getElem?_replicate] at hx
            by_cases hk : k < N
            · rw [if_pos hk] at hx
              cases hx
              show F.heap[V.1 + (G.length - 13) + (k + 1)]? = some (vp_cell _ _)
              rw [show V.1 + (G.length - 13) + (k + 1) = H.size + 1 + k by have := q2.2.1; omega, fi k hk]
              show some (mn_in _ M) = some (arrV _ M (fun _ => .int 0))
              rw [← arrV_new]
              rfl
            · rw [if_neg hk] at hx
              cases hx
      have hS' : va_S (px_A V) s.heap F.heap (locs ++ (List.range N).map fun j => ⟨H.size, j⟩) := by
        refine ⟨by rw [f1]; have := q3.1; omega, fun x x1 x2 => (fo x (Nat.lt_of_lt_of_le x1 q3.1)).trans (q3.2.1 x x1 x2), fun x hx => ?_⟩
        rcases List.mem_append.mp hx with hx | hx
        · exact q3.2.2 x hx
        · obtain ⟨j, -, rfl⟩ := List.mem_map.mp hx
          show V.1 ≤ H.size
          have := q2.2.1
          omega
      obtain ⟨t2, a1, b1⟩ := k F.heap _ ls (cells + 1 + N) (slots + N + N * M) hrel hS' q4 (by simp only [List.length_append, List.length_cons, List.length_replicate]; omega) (by show _ = px_sz _; rw [hsz]; omega) F rfl X'
      refine ⟨t2, st t2 ?_, b1⟩
      have ea : px_ad V G.length = H.size := by unfold px_ad; rw [if_neg (by have := q2.2.1; omega)]; have := q2.2.1; omega
      have a1 : Steps p.tables e below (F.setTop (F0 m (pc + 4) ls (.ref (px_ad V G.length) :: S.map (px_tv V)))) t2 := a1
      rw [ea] at a1
      exact a1
end MN3
