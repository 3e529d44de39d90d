/-! PART 95: THE START: both objects made; what holds then (written by hand; lists from wip/whole/mkinit.py) -/
def wds : Nat → Int32 := (upd (upd (upd (upd (upd (upd (upd (upd (upd (upd (upd (upd (upd (upd (upd (upd (upd (upd (upd (upd (upd (upd (upd (upd (upd (upd (upd (upd (upd (upd (upd (upd (upd (upd (upd (upd (upd (upd (upd (fun _ => 0) 0 107) 1 105) 2 110) 3 100) 4 0) 5 115) 6 105) 7 122) 8 101) 9 0) 10 108) 11 97) 12 121) 13 101) 14 114) 15 0) 16 120) 17 0) 18 121) 19 0) 20 100) 21 97) 22 121) 23 0) 24 98) 25 97) 26 114) 27 0) 28 111) 29 114) 30 0) 31 97) 32 110) 33 100) 34 0) 35 110) 36 111) 37 116) 38 0)
def m4s : Nat → Int32 := upd (upd (upd (upd (fun _ => 0) 0 (-1)) 1 (-1)) 2 (-1)) 3 (-1)
def M00 : Nat → Nat → Int32 := px_uR (px_uR (px_uR (px_uR (fun _ _ => 0) 14 (upd (fun _ => 0) 2 100)) 60 m4s) 67 (upd (fun _ => 0) 12 100)) 106 wds
def M0 : Nat → Nat → Int32 := px_uR M00 102 m4s
def J0 : Nat → Nat → Int64 := fun _ _ => 0
def R0 : Nat → Nat → Option Nat := fun _ _ => none
set_option maxRecDepth 4000 in
theorem hp_00 (L : Nat) (xs : Nat → Int32) : (px_ro0 L xs ++ NX11 13) ++ NX12 67 = hp M00 J0 R0 38 43 L xs [] := by
  have hf : (fun i => if i < 4 then some (13 + 46 + (4 + i)) else none) = px_items := by
    funext i
    unfold px_items
    split
    · congr 1
      omega
    · rfl
  unfold NX11 NX6
  rw [hf]
  rfl
theorem ie_577 (X : px_X) (M : Nat → Nat → Int32) (J : Nat → Nat → Int64) (R : Nat → Nat → Option Nat) (c e nL : Nat) (xs : Nat → Int32) (D : px_H) (v : Int32) : px_run (px_mk (kX12_init X)) 577 ([some (.ref 67), some (.int v)], [], hp M J R c e nL xs D) = cond (decide (4 ≤ v)) (px_run (px_mk (kX12_init X)) 595 ([some (.ref 67), some (.int v)], [], hp M J R c e nL xs D)) (cond (px_inb v 4) (px_run (px_mk (kX12_init X)) 577 ([some (.ref 67), some (.int (v + 1))], [], hp (px_uR M 102 (upd (M 102) v.toNatClampNeg (-1))) J R c e nL xs D)) none) := (px_run_eq _ _ _).trans rfl
theorem ie_595 (X : px_X) (G : px_H) (l : px_L) : px_run (px_mk (kX12_init X)) 595 (l, [], G) = some (none, G) := (px_run_eq _ _ _).trans rfl
theorem m_init (d : Nat) (L : Nat) (xs : Nat → Int32) : px_ex px_tab (d + 1) 164 [.ref 67] ((px_ro0 L xs ++ NX11 13) ++ [.inr (12, [.int 0, .null, .null, .null, .null, .null, .int 0, .null, .null, .null, .null, .int 0, .int 0, .int 0, .null, .null, .null, .null, .null, .null, .null, .null, .int 0, .null, .null, .int 0, .int 0, .null, .null, .null, .int 0, .null, .null, .null, .null, .null, .null, .int 0, .int 0, .null, .null, .null, .int 0, .null, .null, .int 0, .null, .int 0, .int 0, .int 0, .null, .null, .null, .null, .null, .int 0, .int 0, .int 0, .int 0, .int 0, .int 0, .int 0, .int 0, .int 0, .null, .int 0, .null, .null, .null])]) = some (none, hp M0 J0 R0 38 43 L xs []) := by
  have st : ∀ (v : Nat) (M : Nat → Nat → Int32), v < 4 → px_run (px_mk (kX12_init (px_ex px_tab d))) 577 ([some (.ref 67), some (.int (nI v))], [], hp M J0 R0 38 43 L xs []) = px_run (px_mk (kX12_init (px_ex px_tab d))) 577 ([some (.ref 67), some (.int (nI (v + 1)))], [], hp (px_uR M 102 (upd (M 102) v (-1))) J0 R0 38 43 L xs []) := by
    intro v M hv
    rw [ie_577]
    simp (disch := omega) only [px_bd_s, px_psh_s, px_psh_n, px_vb_s, px_ib_s, px_wb_s, px_bo_s, px_bo_n, Bool.cond_decide, cond_true, cond_false, ite_not, Bool.and_true, if_true, if_false, not_true_eq_false, not_false_eq_true, i10, eq_self, decide_true, decide_false, Bool.or_true, Bool.true_or, Bool.or_false, Bool.false_or, Bool.false_eq_true, za4, if_neg, px_inbT, nI_clamp, zp1]
  rw [ct_X12_init d (B := px_ro0 L xs ++ NX11 13) (a := 67) rfl (by decide), hp_00]
  refine (st 0 M00 (by decide)).trans ((st 1 _ (by decide)).trans ((st 2 _ (by decide)).trans ((st 3 _ (by decide)).trans ?_)))
  rw [ie_577, cnd_p (show (4 : Int32) ≤ nI (3 + 1) from by decide), ie_595]
  simp only [px_uR_2, px_uR_s]
  rfl
theorem le_0 (X : px_X) (L : Nat) (xs : Nat → Int32) : px_run (px_mk (kL_law X)) 0 ([some (.ref 0), none, none, none], [], px_ro0 L xs) = px_bd (X 120 [.ref 13] (px_ro0 L xs ++ [.inr (11, [.null, .null, .null, .null, .null, .null, .null, .null])])) (fun v G => px_p (kL_law X) 0 3 ([some (.ref 0), none, none, none], px_psh v [.ref 13], G)) := (px_run_eq _ _ _).trans rfl
theorem le_1 (X : px_X) (G : px_H) : px_p (kL_law X) 0 3 ([some (.ref 0), none, none, none], [.ref 13], G) = px_bd (X 164 [.ref G.length] (G ++ [.inr (12, [.int 0, .null, .null, .null, .null, .null, .int 0, .null, .null, .null, .null, .int 0, .int 0, .int 0, .null, .null, .null, .null, .null, .null, .null, .null, .int 0, .null, .null, .int 0, .int 0, .null, .null, .null, .int 0, .null, .null, .null, .null, .null, .null, .int 0, .int 0, .null, .null, .null, .int 0, .null, .null, .int 0, .null, .int 0, .int 0, .int 0, .null, .null, .null, .null, .null, .int 0, .int 0, .int 0, .int 0, .int 0, .int 0, .int 0, .int 0, .int 0, .null, .int 0, .null, .null, .null])])) (fun v G' => px_p (kL_law X) 0 7 ([some (.ref 0), some (.ref 13), none, none], px_psh v [.ref G.length], G')) := rfl
theorem le_2 (X : px_X) (G : px_H) : px_p (kL_law X) 0 7 ([some (.ref 0), some (.ref 13), none, none], [.ref 67], G) = px_run (px_mk (kL_law X)) 18 ([some (.ref 0), some (.ref 13), some (.ref 67), some (.int 0)], [], G) := rfl
theorem l_start (L : Nat) (xs : Nat → Int32) : px_ex px_tab 60 256 [.ref 0] (px_ro0 L xs) = px_run (px_mk (kL_law (px_ex px_tab 59))) 18 ([some (.ref 0), some (.ref 13), some (.ref 67), some (.int (nI 0))], [], hp M0 J0 R0 38 43 L xs []) := by
  rw [xL_law, le_0, show px_ex px_tab 59 120 [.ref 13] (px_ro0 L xs ++ [.inr (11, [.null, .null, .null, .null, .null, .null, .null, .null])]) = some (none, px_ro0 L xs ++ NX11 13) from ct_X11_init 56 (B := px_ro0 L xs) (a := 13) rfl (by decide), px_bd_s, px_psh_n, le_1, show (px_ro0 L xs ++ NX11 13).length = 67 from rfl, show px_ex px_tab 59 164 [.ref 67] ((px_ro0 L xs ++ NX11 13) ++ [.inr (12, [.int 0, .null, .null, .null, .null, .null, .int 0, .null, .null, .null, .null, .int 0, .int 0, .int 0, .null, .null, .null, .null, .null, .null, .null, .null, .int 0, .null, .null, .int 0, .int 0, .null, .null, .null, .int 0, .null, .null, .null, .null, .null, .null, .int 0, .int 0, .null, .null, .null, .int 0, .null, .null, .int 0, .null, .int 0, .int 0, .int 0, .null, .null, .null, .null, .null, .int 0, .int 0, .int 0, .int 0, .int 0, .int 0, .int 0, .int 0, .int 0, .null, .int 0, .null, .null, .null])]) = some (none, hp M0 J0 R0 38 43 L xs []) from m_init 58 L xs, px_bd_s, px_psh_n, le_2]
  rfl
theorem Inv_0 : Inv M0 J0 R0 38 43 [] 0 := by
  refine ⟨⟨rfl, rfl⟩, ?_, ⟨0, fun _ => 0, fun _ _ => 0, by decide, rfl, rfl, fun i j hi => by omega, fun i hi => by omega, fun i _ _ => rfl⟩, ⟨0, by decide, rfl, rfl, fun j hj => by omega⟩, ⟨0, by decide, rfl, rfl⟩, ⟨0, by decide, rfl, rfl, fun k hk => by omega⟩, ⟨0, fun _ => 0, by decide, rfl, rfl, fun k hk => by omega⟩, Or.inl ⟨rfl, rfl, 0, fun _ => 0, by decide, rfl, rfl, rfl, fun b hb => ⟨?_, Nat.le_refl _⟩, by decide, fun b hb => by omega, fun i hi => absurd hi (Nat.not_lt_zero i)⟩, ?_, ⟨0, by decide, rfl, rfl, fun i hi => by omega⟩, ?_, ?_, by decide, by decide⟩
  · intro s hs
    have h4 : ∀ s, s < 4 → M0 60 s = -1 ∧ M0 102 s = -1 ∧ M0 61 s = nI 0 ∧ M0 103 s = nI 0 := by decide
    obtain ⟨a1, a2, a3, a4⟩ := h4 s hs
    refine ⟨a1.trans a2.symm, ⟨0, by decide, a3, a4⟩, fun q => ?_⟩
    rw [a2] at q
    exact absurd q (by decide)
  · rw [show b = 0 from by omega]
    rfl
  · refine ⟨0, 0, fun _ => 0, fun _ => 0, fun _ => 0, ⟨by decide, by decide, fun t ht => by omega, fun g hg => by omega, fun s hs => ?_⟩, rfl, rfl, ⟨rfl, rfl, fun t ht => by omega⟩, fun g hg => by omega, Or.inl ⟨rfl, rfl⟩⟩
    have e : s = 0 := by
      have : (2 : Nat) ^ 0 = 1 := rfl
      omega
    subst e
    exact ⟨⟨0, rfl, rfl⟩, ⟨0, rfl, rfl⟩, rfl⟩
  · refine ⟨(0, 0, fun _ => 0, fun _ => 0, fun _ => false, fun _ => 0, fun _ => 0, fun _ => 0), 100, 0, ⟨by decide, by decide, by decide, by decide, rfl, rfl, rfl, rfl, rfl, rfl, fun i hi => ?_, fun k hk => ?_⟩, ISk_0 rfl (fun j hj => ?_), Or.inl rfl⟩
    · have hi' : i < 0 := hi
      omega
    · have hk' : k < 0 := hk
      omega
    · have hj' : j < 0 := hj
      omega
  · have h : ∀ i, i < 10 → (∀ j, j < wl i → M0 106 (wx i + j) = nI (wc i j)) ∧ M0 106 (wx i + wl i) = 0 := by decide +kernel
    exact h
theorem sz_app (A B : px_H) : px_sz (A ++ B) = px_sz A + px_sz B := by
  unfold px_sz
  rw [List.map_append, List.sum_append]
set_option maxRecDepth 8000 in
theorem hp_map (M : Nat → Nat → Int32) (J : Nat → Nat → Int64) (R : Nat → Nat → Option Nat) (c e nL : Nat) (xs : Nat → Int32) : (hp M J R c e nL xs []).map px_es = nL :: [6, 6, 4, 4, 5, 1, 1, 3, 3, 2, 3, 3, 8, 18, 8, 8, 8, 24, 24, 24, 200, 200, 25, 24, 24, 24, 24, 5, 20, 6, 6, 7, 8, 8, 8, 40, 8, 6, 6, 160, 160, 160, 6, 6, 160, 160, 160, 160, 3, 101, 10, 4, 512, 512, 512, 512, 9, 2, 3, 4, 4, 4, 40, 40, 40, 40, 69, 8, 8, 8, 8, 8, 24, 24, 24, 24, 20, 20, 20, 20, 20, 160, 20, 20, 6, 6, 8, 8, 8, 40, 40, 40, 40, 40, 160, 320, 320, 16, 9, 9, 4, 4, 4, 160, 160, 39, 180, 9, 9, 4] := rfl
theorem sm_sz : ([6, 6, 4, 4, 5, 1, 1, 3, 3, 2, 3, 3, 8, 18, 8, 8, 8, 24, 24, 24, 200, 200, 25, 24, 24, 24, 24, 5, 20, 6, 6, 7, 8, 8, 8, 40, 8, 6, 6, 160, 160, 160, 6, 6, 160, 160, 160, 160, 3, 101, 10, 4, 512, 512, 512, 512, 9, 2, 3, 4, 4, 4, 40, 40, 40, 40, 69, 8, 8, 8, 8, 8, 24, 24, 24, 24, 20, 20, 20, 20, 20, 160, 20, 20, 6, 6, 8, 8, 8, 40, 40, 40, 40, 40, 160, 320, 320, 16, 9, 9, 4, 4, 4, 160, 160, 39, 180, 9, 9, 4] : List Nat).sum = 6444 := by decide +kernel
theorem hp_sz (M : Nat → Nat → Int32) (J : Nat → Nat → Int64) (R : Nat → Nat → Option Nat) (c e nL : Nat) (xs : Nat → Int32) (D : px_H) : px_sz (hp M J R c e nL xs D) ≤ nL + 20000 + px_sz D := by
  have e0 : hp M J R c e nL xs D = hp M J R c e nL xs [] ++ D := (hp_app M J R c e nL xs [] D).symm
  have h2 : px_sz (hp M J R c e nL xs []) = nL + 6444 := by
    unfold px_sz
    rw [hp_map, List.sum_cons, sm_sz]
  rw [e0, sz_app, h2]
  omega
theorem px_law_ok : ∀ (L : Nat) (xs : Nat → Int32), L ≤ 3072 → ∃ r : px_R, px_ex px_tab 60 256 [.ref 0] (px_ro0 L xs) = some r ∧ r.1 = some (.int 1) ∧ r.2.length ≤ 600000 ∧ px_sz r.2 ≤ 7302250 := by
  intro L xs hL
  obtain ⟨M2, J2, R2, c2, e2, D2, q1, q2, q3⟩ := l_loop L xs hL 512 0 0 M0 J0 R0 38 43 [] (by omega) (by omega) Inv_0
  refine ⟨_, (l_start L xs).trans q1, rfl, ?_, ?_⟩
  · show (hp M2 J2 R2 c2 e2 L xs D2).length ≤ 600000
    rw [hp_len]
    omega
  · show px_sz (hp M2 J2 R2 c2 e2 L xs D2) ≤ 7302250
    have := hp_sz M2 J2 R2 c2 e2 L xs D2
    omega
