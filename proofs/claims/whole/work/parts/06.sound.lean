/-! PART 06: sound: branches, switches, fields, arrays -/
section S6
variable {d : Nat} {X : px_X} {Y : px_Y} {pc : Nat}
theorem px_snd_if1 {c : Int32 → Bool} {P : Int32 → Prop} {t : Nat} (hP : ∀ x, c x = true ↔ P x) (row : ∀ (p : Program) (l : Launch) (e : Env) (R : Room) (s : State) (m : MethodId) (args : Array Value) (below : List Frame) (meth : Method) (c : Code) (H : Heap) (locs : List Loc) (cells slots : Nat) (Q : State → Prop) (ls : Array Slot) (rest : List Value) (x : Int32), p.tables.exec = Jvm.exec → c.code = Y.2.1 → (P x → W p l e R s m args below meth c H locs cells slots Q (F0 m t ls rest)) → (¬ P x → W p l e R s m args below meth c H locs cells slots Q (F0 m (pc + 3) ls rest)) → W p l e R s m args below meth c H locs cells slots Q (F0 m pc ls (.int x :: rest))) : px_Snd d X Y pc (px_if1 c t) 3 := by
  refine px_snd_br (fun st b st' h => ?_) (fun V Γ hy st b st' h ht hf => ?_)
  · obtain ⟨L, S, G⟩ := st
    match S, h with
    | .int x :: S, h => cases (px_mem_inv h).2; exact px_le.rf _
  · obtain ⟨p, l, e, R, s, m, args, below, meth, c0, n0, z0, r, Q⟩ := Γ
    obtain ⟨hx, hb, -⟩ := hy
    obtain ⟨L, S, G⟩ := st
    match S, h with
    | .int x :: S, h =>
      have hn := (px_mem_inv h).1
      cases (px_mem_inv h).2
      intro H locs ls cells slots h2 h3 h4 h5 h6
      refine row p l e R s m args below meth c0 H locs cells slots Q ls (S.map (px_tv V)) x hx hb (fun q => ?_) (fun q => ?_)
      · exact ht (by rw [← hn]; exact (hP x).mpr q) H locs ls cells slots h2 h3 h4 h5 h6
      · exact hf (by rw [← hn]; exact Bool.eq_false_iff.mpr fun q2 => q ((hP x).mp q2)) H locs ls cells slots h2 h3 h4 h5 h6
theorem px_snd_if2 {c : Int32 → Int32 → Bool} {P : Int32 → Int32 → Prop} {t : Nat} (hP : ∀ x y, c x y = true ↔ P x y) (row : ∀ (p : Program) (l : Launch) (e : Env) (R : Room) (s : State) (m : MethodId) (args : Array Value) (below : List Frame) (meth : Method) (c : Code) (H : Heap) (locs : List Loc) (cells slots : Nat) (Q : State → Prop) (ls : Array Slot) (rest : List Value) (x y : Int32), p.tables.exec = Jvm.exec → c.code = Y.2.1 → (P x y → W p l e R s m args below meth c H locs cells slots Q (F0 m t ls rest)) → (¬ P x y → W p l e R s m args below meth c H locs cells slots Q (F0 m (pc + 3) ls rest)) → W p l e R s m args below meth c H locs cells slots Q (F0 m pc ls (.int y :: .int x :: rest))) : px_Snd d X Y pc (px_if2 c t) 3 := by
  refine px_snd_br (fun st b st' h => ?_) (fun V Γ hy st b st' h ht hf => ?_)
  · obtain ⟨L, S, G⟩ := st
    match S, h with
    | .int y :: .int x :: S, h => cases (px_mem_inv h).2; exact px_le.rf _
  · obtain ⟨p, l, e, R, s, m, args, below, meth, c0, n0, z0, r, Q⟩ := Γ
    obtain ⟨hx, hb, -⟩ := hy
    obtain ⟨L, S, G⟩ := st
    match S, h with
    | .int y :: .int x :: S, h =>
      have hn := (px_mem_inv h).1
      cases (px_mem_inv h).2
      intro H locs ls cells slots h2 h3 h4 h5 h6
      refine row p l e R s m args below meth c0 H locs cells slots Q ls (S.map (px_tv V)) x y hx hb (fun q => ?_) (fun q => ?_)
      · exact ht (by rw [← hn]; exact (hP x y).mpr q) H locs ls cells slots h2 h3 h4 h5 h6
      · exact hf (by rw [← hn]; exact Bool.eq_false_iff.mpr fun q2 => q ((hP x y).mp q2)) H locs ls cells slots h2 h3 h4 h5 h6
theorem sx_if_eq {t : Nat} {off : Int} (hd : decode Y.2.1 pc = .ok (.ifCond .eq off, 3)) (ht : (pc : Int) + off = (t : Int)) : px_Snd d X Y pc (px_if1 (fun x => decide (x = 0)) t) 3 := px_snd_if1 (P := fun x => x = 0) (fun _ => decide_eq_true_iff) fun p l e R s m args below meth c H locs cells slots Q ls rest x hx hb kt kf => lv_if_eq hx hb hd ht kt kf
theorem sx_if_ne {t : Nat} {off : Int} (hd : decode Y.2.1 pc = .ok (.ifCond .ne off, 3)) (ht : (pc : Int) + off = (t : Int)) : px_Snd d X Y pc (px_if1 (fun x => decide (¬ x = 0)) t) 3 := px_snd_if1 (P := fun x => ¬ x = 0) (fun _ => decide_eq_true_iff) fun p l e R s m args below meth c H locs cells slots Q ls rest x hx hb kt kf => lv_if_ne hx hb hd ht kt (fun q => kf (fun z => z q))
theorem sx_if_lt {t : Nat} {off : Int} (hd : decode Y.2.1 pc = .ok (.ifCond .lt off, 3)) (ht : (pc : Int) + off = (t : Int)) : px_Snd d X Y pc (px_if1 (fun x => decide (x < 0)) t) 3 := px_snd_if1 (P := fun x => x < 0) (fun _ => decide_eq_true_iff) fun p l e R s m args below meth c H locs cells slots Q ls rest x hx hb kt kf => lv_if_lt hx hb hd ht kt kf
theorem sx_if_ge {t : Nat} {off : Int} (hd : decode Y.2.1 pc = .ok (.ifCond .ge off, 3)) (ht : (pc : Int) + off = (t : Int)) : px_Snd d X Y pc (px_if1 (fun x => decide (0 ≤ x)) t) 3 := px_snd_if1 (P := fun x => 0 ≤ x) (fun _ => decide_eq_true_iff) fun p l e R s m args below meth c H locs cells slots Q ls rest x hx hb kt kf => lv_if_ge hx hb hd ht kt kf
theorem sx_if_gt {t : Nat} {off : Int} (hd : decode Y.2.1 pc = .ok (.ifCond .gt off, 3)) (ht : (pc : Int) + off = (t : Int)) : px_Snd d X Y pc (px_if1 (fun x => decide (0 < x)) t) 3 := px_snd_if1 (P := fun x => 0 < x) (fun _ => decide_eq_true_iff) fun p l e R s m args below meth c H locs cells slots Q ls rest x hx hb kt kf => lv_if_gt hx hb hd ht kt kf
theorem sx_if_le {t : Nat} {off : Int} (hd : decode Y.2.1 pc = .ok (.ifCond .le off, 3)) (ht : (pc : Int) + off = (t : Int)) : px_Snd d X Y pc (px_if1 (fun x => decide (x ≤ 0)) t) 3 := px_snd_if1 (P := fun x => x ≤ 0) (fun _ => decide_eq_true_iff) fun p l e R s m args below meth c H locs cells slots Q ls rest x hx hb kt kf => lv_if_le hx hb hd ht kt kf
theorem sx_icmp_eq {t : Nat} {off : Int} (hd : decode Y.2.1 pc = .ok (.if_icmp .eq off, 3)) (ht : (pc : Int) + off = (t : Int)) : px_Snd d X Y pc (px_if2 (fun x y => decide (x = y)) t) 3 := px_snd_if2 (P := fun x y => x = y) (fun _ _ => decide_eq_true_iff) fun p l e R s m args below meth c H locs cells slots Q ls rest x y hx hb kt kf => lv_icmp_eq hx hb hd ht kt kf
theorem sx_icmp_ne {t : Nat} {off : Int} (hd : decode Y.2.1 pc = .ok (.if_icmp .ne off, 3)) (ht : (pc : Int) + off = (t : Int)) : px_Snd d X Y pc (px_if2 (fun x y => decide (¬ x = y)) t) 3 := px_snd_if2 (P := fun x y => ¬ x = y) (fun _ _ => decide_eq_true_iff) fun p l e R s m args below meth c H locs cells slots Q ls rest x y hx hb kt kf => lv_icmp_ne hx hb hd ht kt (fun q => kf (fun z => z q))
theorem sx_icmp_lt {t : Nat} {off : Int} (hd : decode Y.2.1 pc = .ok (.if_icmp .lt off, 3)) (ht : (pc : Int) + off = (t : Int)) : px_Snd d X Y pc (px_if2 (fun x y => decide (x < y)) t) 3 := px_snd_if2 (P := fun x y => x < y) (fun _ _ => decide_eq_true_iff) fun p l e R s m args below meth c H locs cells slots Q ls rest x y hx hb kt kf => lv_icmp_lt hx hb hd ht kt kf
theorem sx_icmp_ge {t : Nat} {off : Int} (hd : decode Y.2.1 pc = .ok (.if_icmp .ge off, 3)) (ht : (pc : Int) + off = (t : Int)) : px_Snd d X Y pc (px_if2 (fun x y => decide (y ≤ x)) t) 3 := px_snd_if2 (P := fun x y => y ≤ x) (fun _ _ => decide_eq_true_iff) fun p l e R s m args below meth c H locs cells slots Q ls rest x y hx hb kt kf => lv_icmp_ge hx hb hd ht kt kf
theorem sx_icmp_gt {t : Nat} {off : Int} (hd : decode Y.2.1 pc = .ok (.if_icmp .gt off, 3)) (ht : (pc : Int) + off = (t : Int)) : px_Snd d X Y pc (px_if2 (fun x y => decide (y < x)) t) 3 := px_snd_if2 (P := fun x y => y < x) (fun _ _ => decide_eq_true_iff) fun p l e R s m args below meth c H locs cells slots Q ls rest x y hx hb kt kf => lv_icmp_gt hx hb hd ht kt kf
theorem sx_icmp_le {t : Nat} {off : Int} (hd : decode Y.2.1 pc = .ok (.if_icmp .le off, 3)) (ht : (pc : Int) + off = (t : Int)) : px_Snd d X Y pc (px_if2 (fun x y => decide (x ≤ y)) t) 3 := px_snd_if2 (P := fun x y => x ≤ y) (fun _ _ => decide_eq_true_iff) fun p l e R s m args below meth c H locs cells slots Q ls rest x y hx hb kt kf => lv_icmp_le hx hb hd ht kt kf
theorem sx_ifnull {t : Nat} {off : Int} (hd : decode Y.2.1 pc = .ok (.ifnull off, 3)) (ht : (pc : Int) + off = (t : Int)) : px_Snd d X Y pc (px_ifnull t) 3 := by
  refine px_snd_br (fun st b st' h => ?_) (fun V Γ hy st b st' h kt kf => ?_)
  · obtain ⟨L, S, G⟩ := st
    match S, h with
    | .null :: S, h => cases (px_mem_inv h).2; exact px_le.rf _
    | .ref a :: S, h => cases (px_mem_inv h).2; exact px_le.rf _
  · obtain ⟨p, l, e, R, s, m, args, below, meth, c0, n0, z0, r, Q⟩ := Γ
    obtain ⟨hx, hb, -⟩ := hy
    obtain ⟨L, S, G⟩ := st
    match S, h with
    | .null :: S, h =>
      have hn := (px_mem_inv h).1
      cases (px_mem_inv h).2
      intro H locs ls cells slots h2 h3 h4 h5 h6
      exact lv_ifnullN hx hb hd ht (kt hn.symm H locs ls cells slots h2 h3 h4 h5 h6)
    | .ref a :: S, h =>
      have hn := (px_mem_inv h).1
      cases (px_mem_inv h).2
      intro H locs ls cells slots h2 h3 h4 h5 h6
      exact lv_ifnull hx hb hd (kf hn.symm H locs ls cells slots h2 h3 h4 h5 h6)
theorem sx_ifnonnull {t : Nat} {off : Int} (hd : decode Y.2.1 pc = .ok (.ifnonnull off, 3)) (ht : (pc : Int) + off = (t : Int)) : px_Snd d X Y pc (px_ifnonnull t) 3 := by
  refine px_snd_br (fun st b st' h => ?_) (fun V Γ hy st b st' h kt kf => ?_)
  · obtain ⟨L, S, G⟩ := st
    match S, h with
    | .null :: S, h => cases (px_mem_inv h).2; exact px_le.rf _
    | .ref a :: S, h => cases (px_mem_inv h).2; exact px_le.rf _
  · obtain ⟨p, l, e, R, s, m, args, below, meth, c0, n0, z0, r, Q⟩ := Γ
    obtain ⟨hx, hb, -⟩ := hy
    obtain ⟨L, S, G⟩ := st
    match S, h with
    | .null :: S, h =>
      have hn := (px_mem_inv h).1
      cases (px_mem_inv h).2
      intro H locs ls cells slots h2 h3 h4 h5 h6
      exact lv_ifnonnullN hx hb hd (kf hn.symm H locs ls cells slots h2 h3 h4 h5 h6)
    | .ref a :: S, h =>
      have hn := (px_mem_inv h).1
      cases (px_mem_inv h).2
      intro H locs ls cells slots h2 h3 h4 h5 h6
      exact lv_ifnonnull hx hb hd ht (kt hn.symm H locs ls cells slots h2 h3 h4 h5 h6)
theorem px_swt_in (x : Int32) (d : Nat) : ∀ l : List (Int32 × Nat), (∃ v t, (v, t) ∈ l ∧ x = v ∧ px_swt x d l = t) ∨ ((∀ q ∈ l, x ≠ q.1) ∧ px_swt x d l = d)
  | [] => Or.inr ⟨fun _ h => by simp at h, rfl⟩
  | (v, t) :: l => by
    by_cases h : x = v
    · exact Or.inl ⟨v, t, List.mem_cons_self, h, by unfold px_swt; simp [h]⟩
    · rcases px_swt_in x d l with ⟨v', t', h1, h2, h3⟩ | ⟨h1, h2⟩
      · exact Or.inl ⟨v', t', List.mem_cons_of_mem _ h1, h2, by unfold px_swt; simp [h, h3]⟩
      · refine Or.inr ⟨fun q hq => ?_, by unfold px_swt; simp [h, h2]⟩
        rcases List.mem_cons.mp hq with rfl | hq
        · exact h
        · exact h1 q hq
theorem px_snd_sw {l : List (Int32 × Nat)} {dd len : Nat} (row : ∀ (p : Program) (l0 : Launch) (e : Env) (R : Room) (s : State) (m : MethodId) (args : Array Value) (below : List Frame) (meth : Method) (c : Code) (H : Heap) (locs : List Loc) (cells slots : Nat) (Q : State → Prop) (ls : Array Slot) (rest : List Value) (x : Int32), p.tables.exec = Jvm.exec → c.code = Y.2.1 → W p l0 e R s m args below meth c H locs cells slots Q (F0 m (px_swt x dd l) ls rest) → W p l0 e R s m args below meth c H locs cells slots Q (F0 m pc ls (.int x :: rest))) : px_Snd d X Y pc (px_sw l dd) len := by
  refine ⟨fun _ k j st r h _ hj => ?_, fun V Γ hy _ _ k j st h _ hj => ?_⟩
  · obtain ⟨L, S, G⟩ := st
    match S, h with
    | .int x :: S, h =>
      unfold px_sw at h
      dsimp only at h
      rw [px_swl_eq] at h
      exact (show px_le G r.2 from hj (px_swt x dd l) (L, S, G) h)
  · obtain ⟨p, l0, e, R, s, m, args, below, meth, c0, n0, z0, r, Q⟩ := Γ
    obtain ⟨hx, hb, -⟩ := hy
    obtain ⟨L, S, G⟩ := st
    match S, h with
    | .int x :: S, h =>
      unfold px_sw at h
      dsimp only at h
      rw [px_swl_eq] at h
      have h1 := (hj _ _ h).2
      intro H locs ls cells slots h2 h3 h4 h5 h6
      exact row p l0 e R s m args below meth c0 H locs cells slots Q ls (S.map (px_tv V)) x hx hb (h1 H locs ls cells slots h2 h3 h4 h5 h6)
theorem sx_tsw {l : List (Int32 × Nat)} {dd len : Nat} {dflt lo hi : Int} {offs : Array Int} (hd : decode Y.2.1 pc = .ok (.tableswitch dflt lo hi offs, len)) (hdd : (pc : Int) + dflt = (dd : Int))
    (hp : (l.all fun q => decide (¬ q.1.toInt < lo) && decide (¬ hi < q.1.toInt) && (match offs[(q.1.toInt - lo).toNat]? with
      | some off => decide ((pc : Int) + off = (q.2 : Int))
      | none => false)) = true) (hn : ((List.range (hi - lo + 1).toNat).all fun k => l.any fun q => decide (q.1.toInt = lo + k)) = true) : px_Snd d X Y pc (px_sw l dd) len := by
  refine px_snd_sw fun p l0 e R s m args below meth c H locs cells slots Q ls rest x hx hb k => ?_
  rcases px_swt_in x dd l with ⟨v, t, h1, rfl, h3⟩ | ⟨h1, h2⟩
  · have h4 := List.all_eq_true.mp hp (x, t) h1
    simp only [Bool.and_eq_true, decide_eq_true_eq] at h4
    obtain ⟨⟨a1, a2⟩, a3⟩ := h4
    rw [h3] at k
    cases ho : offs[(x.toInt - lo).toNat]? with
    | none => rw [ho] at a3; cases a3
    | some off =>
      rw [ho] at a3
      exact lv_tableIn hx hb hd a1 a2 ho (by simpa using a3) k
  · rw [h2] at k
    refine lv_tableOut hx hb hd ?_ hdd k
    by_cases a : x.toInt < lo
    · exact Or.inl a
    · by_cases b : hi < x.toInt
      · exact Or.inr b
      · exfalso
        have h5 := List.all_eq_true.mp hn (x.toInt - lo).toNat (List.mem_range.mpr (by omega))
        obtain ⟨q, hq, h6⟩ := List.any_eq_true.mp h5
        have h7 : q.1.toInt = lo + ((x.toInt - lo).toNat : Int) := by simpa using h6
        exact h1 q hq (Int32.toInt_inj.mp (by omega))
def px_lko (x : Int) (dflt : Int) : List (Int × Int) → Int := fun ps => Op.lookupswitch.offset ps dflt x
theorem sx_lsw {l : List (Int32 × Nat)} {dd len : Nat} {dflt : Int} {ps : Array (Int × Int)} (hd : decode Y.2.1 pc = .ok (.lookupswitch dflt ps, len)) (hs : (ps.toList.zip (ps.toList.drop 1)).all (fun (a, next) => a.1 < next.1) = true) (hdd : (pc : Int) + dflt = (dd : Int))
    (hp : ∀ x : Int32, (pc : Int) + Op.lookupswitch.offset ps.toList dflt x.toInt = (px_swt x dd l : Int)) : px_Snd d X Y pc (px_sw l dd) len :=
  px_snd_sw fun p l0 e R s m args below meth c H locs cells slots Q ls rest x hx hb k => lv_lookup hx hb hd hs rfl (hp x) k
theorem px_inb_iff {i : Int32} {n : Nat} : px_inb i n = true ↔ vp_in i n := by
  unfold px_inb vp_in
  simp only [Bool.and_eq_true, Bool.not_eq_true', decide_eq_false_iff_not, decide_eq_true_eq]
  constructor
  · rintro ⟨h1, h2⟩ (h | h)
    · exact h1 h
    · omega
  · intro h
    exact ⟨fun q => h (Or.inl q), Nat.not_le.mp fun q => h (Or.inr q)⟩
theorem sx_getf {ci k index N : Nat} {C : String} {T : u_T} (hd : decode Y.2.1 pc = .ok (.getfield index, 3)) (hc : px_cl[ci]? = some (C, T, N)) (hin : ∀ w ∈ u_ws C T N, w ∈ px_good) (hk : k < N) (hl : Cond.fieldLink Y.1.cls index (T k).1 (T k).2.1 (T k).2.2.1 ∈ px_good) : px_Snd d X Y pc (px_getf ci k) 3 := by
  refine px_snd_stk (fun st st' h => ?_) ?_
  · obtain ⟨L, S, G⟩ := st
    match S, h with
    | .ref a :: S, h =>
      dsimp only at h
      split at h
      · split at h
        · cases (px_mem_inv h).2; exact ⟨rfl, rfl⟩
        · cases h
      · cases h
  · intro V p l e R s m args below meth c H locs cells slots Q ls hx hb hown hts hwk hS hml hR hcc st st' h hrel _ h1
    obtain ⟨L, S, G⟩ := st
    match S, h with
    | .ref a :: S, h =>
      dsimp only at h
      split at h
      · next c1 fs hG =>
        split at h
        · next v hv =>
          have hn := (px_mem_inv h).1
          rw [Bool.and_eq_true] at hn
          have e1 : c1 = ci := Nat.eq_of_beq_eq_true hn.1
          have e2 : 13 ≤ a := Nat.le_of_ble_eq_true hn.2
          subst e1
          cases (px_mem_inv h).2
          exact va_get hx hb hts hin hown hwk.1 hrel.2.2 (a - 13) (px_img_get e2 hG) hc k hk (hts _ hl) (fun _ q => q) (v := px_tv V v) (by rw [List.getElem?_map, hv]; rfl) hd h1
        · cases h
      · cases h
theorem px_ro_tag {V : px_V} {a t n : Nat} {f : Nat → Int32} (ha : a < 13) (h : (px_ro V)[a]? = some (.inl (t, n, .inl f))) : (t = 0 ∧ ((a = 0 ∧ n = V.2.2.2.2.2.1 ∧ f = V.2.2.2.2.1) ∨ (a = 1 ∧ n = 6 ∧ f = px_KA) ∨ (a = 2 ∧ n = 6 ∧ f = px_WK))) ∨ (t = 9 ∧ ∃ i, i < 10 ∧ a = 3 + i ∧ n = px_len.getD i 0 ∧ f = px_st i) := by
  match a, ha, h with
  | 0, _, h => cases h; exact Or.inl ⟨rfl, Or.inl ⟨rfl, rfl, rfl⟩⟩
  | 1, _, h => cases h; exact Or.inl ⟨rfl, Or.inr (Or.inl ⟨rfl, rfl, rfl⟩)⟩
  | 2, _, h => cases h; exact Or.inl ⟨rfl, Or.inr (Or.inr ⟨rfl, rfl, rfl⟩)⟩
  | 3, _, h => cases h; exact Or.inr ⟨rfl, 0, by decide, rfl, rfl, rfl⟩
  | 4, _, h => cases h; exact Or.inr ⟨rfl, 1, by decide, rfl, rfl, rfl⟩
  | 5, _, h => cases h; exact Or.inr ⟨rfl, 2, by decide, rfl, rfl, rfl⟩
  | 6, _, h => cases h; exact Or.inr ⟨rfl, 3, by decide, rfl, rfl, rfl⟩
  | 7, _, h => cases h; exact Or.inr ⟨rfl, 4, by decide, rfl, rfl, rfl⟩
  | 8, _, h => cases h; exact Or.inr ⟨rfl, 5, by decide, rfl, rfl, rfl⟩
  | 9, _, h => cases h; exact Or.inr ⟨rfl, 6, by decide, rfl, rfl, rfl⟩
  | 10, _, h => cases h; exact Or.inr ⟨rfl, 7, by decide, rfl, rfl, rfl⟩
  | 11, _, h => cases h; exact Or.inr ⟨rfl, 8, by decide, rfl, rfl, rfl⟩
  | 12, _, h => cases h; exact Or.inr ⟨rfl, 9, by decide, rfl, rfl, rfl⟩
  | a + 13, ha, _ => omega
theorem px_ro_inl {V : px_V} {a : Nat} {e : va_E} (ha : a < 13) (h : (px_ro V)[a]? = some e) : ∃ t n f, e = .inl (t, n, .inl f) := by
  match a, ha, h with
  | 0, _, h => cases h; exact ⟨_, _, _, rfl⟩
  | 1, _, h => cases h; exact ⟨_, _, _, rfl⟩
  | 2, _, h => cases h; exact ⟨_, _, _, rfl⟩
  | 3, _, h => cases h; exact ⟨_, _, _, rfl⟩
  | 4, _, h => cases h; exact ⟨_, _, _, rfl⟩
  | 5, _, h => cases h; exact ⟨_, _, _, rfl⟩
  | 6, _, h => cases h; exact ⟨_, _, _, rfl⟩
  | 7, _, h => cases h; exact ⟨_, _, _, rfl⟩
  | 8, _, h => cases h; exact ⟨_, _, _, rfl⟩
  | 9, _, h => cases h; exact ⟨_, _, _, rfl⟩
  | 10, _, h => cases h; exact ⟨_, _, _, rfl⟩
  | 11, _, h => cases h; exact ⟨_, _, _, rfl⟩
  | 12, _, h => cases h; exact ⟨_, _, _, rfl⟩
  | a + 13, ha, _ => omega
theorem sx_iald (hd : decode Y.2.1 pc = .ok (.iaload, 1)) : px_Snd d X Y pc (px_iald 0) 1 := by
  refine px_snd_stk (fun st st' h => ?_) ?_
  · obtain ⟨L, S, G⟩ := st
    match S, h with
    | .int i :: .ref a :: S, h =>
      dsimp only at h
      split at h
      · cases (px_mem_inv h).2; exact ⟨rfl, rfl⟩
      · cases h
  · intro V p l e R s m args below meth c H locs cells slots Q ls hx hb hown hts hwk hS hml hR hcc st st' h hrel _ h1
    obtain ⟨L, S, G⟩ := st
    match S, h with
    | .int i :: .ref a :: S, h =>
      dsimp only at h
      split at h
      · next t' n f hG =>
        have hn := (px_mem_inv h).1
        rw [Bool.and_eq_true] at hn
        have e1 : t' = 0 := Nat.eq_of_beq_eq_true hn.1
        have hi := px_inb_iff.mp hn.2
        subst e1
        cases (px_mem_inv h).2
        by_cases ha : a < 13
        · have e3 := hrel.1 a ha
          dsimp only at e3 hG
          rw [hG] at e3
          show W p l e R s m args below meth c H locs cells slots Q (F0 m pc ls (.int i :: .ref (px_ad V a) :: S.map (px_tv V)))
          rw [px_ad_ro ha]
          rcases px_ro_tag ha e3.symm with ⟨-, ⟨rfl, rfl, rfl⟩ | ⟨rfl, rfl, rfl⟩ | ⟨rfl, rfl, rfl⟩⟩ | ⟨q, -⟩
          · exact va_ti hx hb hwk.2.1 hS hi rfl hd h1
          · exact va_ti hx hb hwk.2.2.1 hS hi rfl hd h1
          · exact va_ti hx hb hwk.2.2.2.1 hS hi rfl hd h1
          · cases q
        · exact va_iald hx hb hwk.1 hrel.2.2 (a - 13) 0 (px_img_get (Nat.not_lt.mp ha) hG) rfl hi hd h1
      · cases h
theorem sx_zald (hd : decode Y.2.1 pc = .ok (.baload, 1)) : px_Snd d X Y pc (px_iald 1) 1 := by
  refine px_snd_stk (fun st st' h => ?_) ?_
  · obtain ⟨L, S, G⟩ := st
    match S, h with
    | .int i :: .ref a :: S, h =>
      dsimp only at h
      split at h
      · cases (px_mem_inv h).2; exact ⟨rfl, rfl⟩
      · cases h
  · intro V p l e R s m args below meth c H locs cells slots Q ls hx hb hown hts hwk hS hml hR hcc st st' h hrel _ h1
    obtain ⟨L, S, G⟩ := st
    match S, h with
    | .int i :: .ref a :: S, h =>
      dsimp only at h
      split at h
      · next t' n f hG =>
        have hn := (px_mem_inv h).1
        rw [Bool.and_eq_true] at hn
        have e1 : t' = 1 := Nat.eq_of_beq_eq_true hn.1
        have hi := px_inb_iff.mp hn.2
        subst e1
        cases (px_mem_inv h).2
        by_cases ha : a < 13
        · have e3 := hrel.1 a ha
          dsimp only at e3 hG
          rw [hG] at e3
          rcases px_ro_tag ha e3.symm with ⟨q, -⟩ | ⟨q, -⟩ <;> cases q
        · exact va_zald hx hb hwk.1 hrel.2.2 (a - 13) 1 (px_img_get (Nat.not_lt.mp ha) hG) rfl hi hd h1
      · cases h
theorem sx_lald (hd : decode Y.2.1 pc = .ok (.laload, 1)) : px_Snd d X Y pc px_lald 1 := by
  refine px_snd_stk (fun st st' h => ?_) ?_
  · obtain ⟨L, S, G⟩ := st
    match S, h with
    | .int i :: .ref a :: S, h =>
      dsimp only at h
      split at h
      · cases (px_mem_inv h).2; exact ⟨rfl, rfl⟩
      · cases h
  · intro V p l e R s m args below meth c H locs cells slots Q ls hx hb hown hts hwk hS hml hR hcc st st' h hrel _ h1
    obtain ⟨L, S, G⟩ := st
    match S, h with
    | .int i :: .ref a :: S, h =>
      dsimp only at h
      split at h
      · next t' n f hG =>
        have hn := (px_mem_inv h).1
        rw [Bool.and_eq_true, Bool.and_eq_true] at hn
        have e1 : t' = 2 := Nat.eq_of_beq_eq_true hn.1.1
        have hi := px_inb_iff.mp hn.2
        subst e1
        cases (px_mem_inv h).2
        exact va_lald hx hb hwk.1 hrel.2.2 (a - 13) 2 (px_img_get (Nat.le_of_ble_eq_true hn.1.2) hG) rfl hi hd h1
      · cases h
theorem sx_alen (hd : decode Y.2.1 pc = .ok (.arraylength, 1)) : px_Snd d X Y pc px_alen 1 := by
  refine px_snd_stk (fun st st' h => ?_) ?_
  · obtain ⟨L, S, G⟩ := st
    match S, h with
    | .ref a :: S, h =>
      dsimp only at h
      split at h
      · cases (px_mem_inv h).2; exact ⟨rfl, rfl⟩
      · cases h
  · intro V p l e R s m args below meth c H locs cells slots Q ls hx hb hown hts hwk hS hml hR hcc st st' h hrel _ h1
    obtain ⟨L, S, G⟩ := st
    match S, h with
    | .ref a :: S, h =>
      dsimp only at h
      split at h
      · next t' n z hG =>
        have hn := Nat.le_of_ble_eq_true (px_mem_inv h).1
        cases (px_mem_inv h).2
        by_cases ha : a < 13
        · have e3 := hrel.1 a ha
          dsimp only at e3 hG
          rw [hG] at e3
          obtain ⟨t2, n2, f2, e4⟩ := px_ro_inl ha e3.symm
          cases e4
          show W p l e R s m args below meth c H locs cells slots Q (F0 m pc ls (.ref (px_ad V a) :: S.map (px_tv V)))
          rw [px_ad_ro ha]
          rcases px_ro_tag ha e3.symm with ⟨-, ⟨rfl, rfl, rfl⟩ | ⟨rfl, rfl, rfl⟩ | ⟨rfl, rfl, rfl⟩⟩ | ⟨q, -⟩
          · exact va_tlen hx hb hwk.2.1 hS rfl hd h1
          · exact va_tlen hx hb hwk.2.2.1 hS rfl hd h1
          · exact va_tlen hx hb hwk.2.2.2.1 hS rfl hd h1
          · omega
        · have ht : ∃ ty, (px_tys V)[t']? = some (V.2.2.2.1 t', ty) := by
            match t', hn with
            | 0, _ => exact ⟨_, rfl⟩
            | 1, _ => exact ⟨_, rfl⟩
            | 2, _ => exact ⟨_, rfl⟩
            | 3, _ => exact ⟨_, rfl⟩
            | 4, _ => exact ⟨_, rfl⟩
            | 5, _ => exact ⟨_, rfl⟩
            | k + 6, hn => omega
          obtain ⟨ty, ht⟩ := ht
          have he := px_img_get (V := V) (Nat.not_lt.mp ha) hG
          have e9 : ∃ x, px_te V (.inl (t', n, z)) = .inl (V.2.2.2.1 t', n, x) := by
            unfold px_te
            split
            · next q => cases q
            · next q => cases q; exact ⟨_, rfl⟩
            · next q => cases q; exact ⟨_, rfl⟩
          obtain ⟨x, e9⟩ := e9
          rw [e9] at he
          exact va_alen hx hb hwk.1 hrel.2.2 (a - 13) t' he ht rfl hd h1
      · cases h
end S6
