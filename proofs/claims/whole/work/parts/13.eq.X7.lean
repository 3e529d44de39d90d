/-! block equations over the fixed layout (written by wip/whole/seg.py) -/
set_option maxRecDepth 40000 in
theorem eX7_addMark_0 (X : px_X) (M : Nat → Nat → Int32) (J : Nat → Nat → Int64) (R : Nat → Nat → Option Nat) (c e : Nat) (nL : Nat) (xs : Nat → Int32) (D : px_H) (v1 : Int32) (v2 : Int32) (v3 : Int32) : px_run (px_mk (kX7_addMark X)) 0 ([some (.ref 14), some (.int (v1)), some (.int (v2)), some (.int (v3))], [], (hp M J R c e nL xs D)) =
    cond (decide (v1 < (-5000)))
    (px_run (px_mk (kX7_addMark X)) 28 ([some (.ref 14), some (.int (v1)), some (.int (v2)), some (.int (v3))], [], (hp M J R c e nL xs D)))
    (cond (decide (5000 < v1))
    (px_run (px_mk (kX7_addMark X)) 28 ([some (.ref 14), some (.int (v1)), some (.int (v2)), some (.int (v3))], [], (hp M J R c e nL xs D)))
    (cond (decide (v2 < (-5000)))
    (px_run (px_mk (kX7_addMark X)) 28 ([some (.ref 14), some (.int (v1)), some (.int (v2)), some (.int (v3))], [], (hp M J R c e nL xs D)))
    (cond (decide (v2 ≤ 5000))
    (px_run (px_mk (kX7_addMark X)) 31 ([some (.ref 14), some (.int (v1)), some (.int (v2)), some (.int (v3))], [], (hp M J R c e nL xs D)))
    (px_run (px_mk (kX7_addMark X)) 28 ([some (.ref 14), some (.int (v1)), some (.int (v2)), some (.int (v3))], [], (hp M J R c e nL xs D)))))) := (px_run_eq _ _ _).trans rfl
set_option maxRecDepth 40000 in
theorem eX7_addMark_28 (X : px_X) (M : Nat → Nat → Int32) (J : Nat → Nat → Int64) (R : Nat → Nat → Option Nat) (c e : Nat) (nL : Nat) (xs : Nat → Int32) (D : px_H) (o0 : Option Value) (o1 : Option Value) (o2 : Option Value) (o3 : Option Value) : px_run (px_mk (kX7_addMark X)) 28 ([o0, o1, o2, o3], [], (hp M J R c e nL xs D)) =
    some (some (.int ((-2))), (hp M J R c e nL xs D)) := (px_run_eq _ _ _).trans rfl
set_option maxRecDepth 40000 in
theorem eX7_addMark_31 (X : px_X) (M : Nat → Nat → Int32) (J : Nat → Nat → Int64) (R : Nat → Nat → Option Nat) (c e : Nat) (nL : Nat) (xs : Nat → Int32) (D : px_H) (v1 : Int32) (v2 : Int32) (v3 : Int32) : px_run (px_mk (kX7_addMark X)) 31 ([some (.ref 14), some (.int (v1)), some (.int (v2)), some (.int (v3))], [], (hp M J R c e nL xs D)) =
    cond (decide (M 14 0 < 8))
    (px_run (px_mk (kX7_addMark X)) 43 ([some (.ref 14), some (.int (v1)), some (.int (v2)), some (.int (v3))], [], (hp M J R c e nL xs D)))
    (some (some (.int ((-4))), (hp M J R c e nL xs D))) := (px_run_eq _ _ _).trans rfl
set_option maxRecDepth 40000 in
theorem eX7_addMark_43 (X : px_X) (M : Nat → Nat → Int32) (J : Nat → Nat → Int64) (R : Nat → Nat → Option Nat) (c e : Nat) (nL : Nat) (xs : Nat → Int32) (D : px_H) (v1 : Int32) (v2 : Int32) (v3 : Int32) : px_run (px_mk (kX7_addMark X)) 43 ([some (.ref 14), some (.int (v1)), some (.int (v2)), some (.int (v3))], [], (hp M J R c e nL xs D)) =
    cond (px_inb (M 14 0) 8)
    (cond (px_inb (M 14 0) 8)
    (cond (px_inb (M 14 0) 8 && (decide (v3 = 0) || decide (v3 = 1)))
    (px_bd (X 83 [.ref 14] (hp (px_uR (px_uR (px_uR (px_uR M 15 (upd (M 15) (Int32.toNatClampNeg (M 14 0)) (v1))) 16 (upd (M 16) (Int32.toNatClampNeg (M 14 0)) (v2))) 17 (upd (M 17) (Int32.toNatClampNeg (M 14 0)) (v3))) 14 (upd (M 14) 0 ((M 14 0 + 1)))) J R c e nL xs D))
    (fun v G1 => px_p (kX7_addMark X) 43 26 ([some (.ref 14), some (.int (v1)), some (.int (v2)), some (.int (v3))], px_psh v [], G1))) none) none) none := (px_run_eq _ _ _).trans rfl
set_option maxRecDepth 40000 in
theorem eX7_addMark_43_26 (X : px_X) (M : Nat → Nat → Int32) (J : Nat → Nat → Int64) (R : Nat → Nat → Option Nat) (c e : Nat) (nL : Nat) (xs : Nat → Int32) (D : px_H) (v1 : Int32) (v2 : Int32) (v3 : Int32) : px_p (kX7_addMark X) 43 26 ([some (.ref 14), some (.int (v1)), some (.int (v2)), some (.int (v3))], [], (hp M J R c e nL xs D)) =
    some (some (.int ((M 14 0 - 1))), (hp M J R c e nL xs D)) := rfl
set_option maxRecDepth 40000 in
theorem eX7_addTape_0 (X : px_X) (M : Nat → Nat → Int32) (J : Nat → Nat → Int64) (R : Nat → Nat → Option Nat) (c e : Nat) (nL : Nat) (xs : Nat → Int32) (D : px_H) (v1 : Int32) (v2 : Int32) (v3 : Int32) : px_run (px_mk (kX7_addTape X)) 0 ([some (.ref 14), some (.int (v1)), some (.int (v2)), some (.int (v3))], [], (hp M J R c e nL xs D)) =
    px_bd (X 82 [.ref 14, .int (v1)] (hp M J R c e nL xs D))
    (fun v G1 => px_p (kX7_addTape X) 0 3 ([some (.ref 14), some (.int (v1)), some (.int (v2)), some (.int (v3))], px_psh v [], G1)) := (px_run_eq _ _ _).trans rfl
set_option maxRecDepth 40000 in
theorem eX7_addTape_0_3 (X : px_X) (M : Nat → Nat → Int32) (J : Nat → Nat → Int64) (R : Nat → Nat → Option Nat) (c e : Nat) (nL : Nat) (xs : Nat → Int32) (D : px_H) (v1 : Int32) (v2 : Int32) (v3 : Int32) (w0 : Int32) : px_p (kX7_addTape X) 0 3 ([some (.ref 14), some (.int (v1)), some (.int (v2)), some (.int (v3))], [.int (w0)], (hp M J R c e nL xs D)) =
    cond (decide (w0 = 0))
    (px_run (px_mk (kX7_addTape X)) 33 ([some (.ref 14), some (.int (v1)), some (.int (v2)), some (.int (v3))], [], (hp M J R c e nL xs D)))
    (px_bd (X 82 [.ref 14, .int (v2)] (hp M J R c e nL xs D))
    (fun v G1 => px_p (kX7_addTape X) 0 7 ([some (.ref 14), some (.int (v1)), some (.int (v2)), some (.int (v3))], px_psh v [], G1))) := rfl
set_option maxRecDepth 40000 in
theorem eX7_addTape_33 (X : px_X) (M : Nat → Nat → Int32) (J : Nat → Nat → Int64) (R : Nat → Nat → Option Nat) (c e : Nat) (nL : Nat) (xs : Nat → Int32) (D : px_H) (o0 : Option Value) (o1 : Option Value) (o2 : Option Value) (o3 : Option Value) : px_run (px_mk (kX7_addTape X)) 33 ([o0, o1, o2, o3], [], (hp M J R c e nL xs D)) =
    some (some (.int ((-2))), (hp M J R c e nL xs D)) := (px_run_eq _ _ _).trans rfl
set_option maxRecDepth 40000 in
theorem eX7_addTape_0_7 (X : px_X) (M : Nat → Nat → Int32) (J : Nat → Nat → Int64) (R : Nat → Nat → Option Nat) (c e : Nat) (nL : Nat) (xs : Nat → Int32) (D : px_H) (v1 : Int32) (v2 : Int32) (v3 : Int32) (w0 : Int32) : px_p (kX7_addTape X) 0 7 ([some (.ref 14), some (.int (v1)), some (.int (v2)), some (.int (v3))], [.int (w0)], (hp M J R c e nL xs D)) =
    cond (decide (w0 = 0))
    (px_run (px_mk (kX7_addTape X)) 33 ([some (.ref 14), some (.int (v1)), some (.int (v2)), some (.int (v3))], [], (hp M J R c e nL xs D)))
    (cond (decide (v1 = v2))
    (px_run (px_mk (kX7_addTape X)) 33 ([some (.ref 14), some (.int (v1)), some (.int (v2)), some (.int (v3))], [], (hp M J R c e nL xs D)))
    (cond (decide (v3 < 1))
    (px_run (px_mk (kX7_addTape X)) 33 ([some (.ref 14), some (.int (v1)), some (.int (v2)), some (.int (v3))], [], (hp M J R c e nL xs D)))
    (cond (decide (v3 ≤ 15000))
    (px_run (px_mk (kX7_addTape X)) 36 ([some (.ref 14), some (.int (v1)), some (.int (v2)), some (.int (v3))], [], (hp M J R c e nL xs D)))
    (px_run (px_mk (kX7_addTape X)) 33 ([some (.ref 14), some (.int (v1)), some (.int (v2)), some (.int (v3))], [], (hp M J R c e nL xs D)))))) := rfl
set_option maxRecDepth 40000 in
theorem eX7_addTape_36 (X : px_X) (M : Nat → Nat → Int32) (J : Nat → Nat → Int64) (R : Nat → Nat → Option Nat) (c e : Nat) (nL : Nat) (xs : Nat → Int32) (D : px_H) (v1 : Int32) (v2 : Int32) (v3 : Int32) : px_run (px_mk (kX7_addTape X)) 36 ([some (.ref 14), some (.int (v1)), some (.int (v2)), some (.int (v3))], [], (hp M J R c e nL xs D)) =
    cond (decide (M 14 1 < 24))
    (px_run (px_mk (kX7_addTape X)) 48 ([some (.ref 14), some (.int (v1)), some (.int (v2)), some (.int (v3))], [], (hp M J R c e nL xs D)))
    (some (some (.int ((-4))), (hp M J R c e nL xs D))) := (px_run_eq _ _ _).trans rfl
set_option maxRecDepth 40000 in
theorem eX7_addTape_48 (X : px_X) (M : Nat → Nat → Int32) (J : Nat → Nat → Int64) (R : Nat → Nat → Option Nat) (c e : Nat) (nL : Nat) (xs : Nat → Int32) (D : px_H) (v1 : Int32) (v2 : Int32) (v3 : Int32) : px_run (px_mk (kX7_addTape X)) 48 ([some (.ref 14), some (.int (v1)), some (.int (v2)), some (.int (v3))], [], (hp M J R c e nL xs D)) =
    cond (px_inb (M 14 1) 24)
    (cond (px_inb (M 14 1) 24)
    (cond (px_inb (M 14 1) 24)
    (px_bd (X 83 [.ref 14] (hp (px_uR (px_uR (px_uR (px_uR M 18 (upd (M 18) (Int32.toNatClampNeg (M 14 1)) (v1))) 19 (upd (M 19) (Int32.toNatClampNeg (M 14 1)) (v2))) 20 (upd (M 20) (Int32.toNatClampNeg (M 14 1)) (v3))) 14 (upd (M 14) 1 ((M 14 1 + 1)))) J R c e nL xs D))
    (fun v G1 => px_p (kX7_addTape X) 48 26 ([some (.ref 14), some (.int (v1)), some (.int (v2)), some (.int (v3))], px_psh v [], G1))) none) none) none := (px_run_eq _ _ _).trans rfl
set_option maxRecDepth 40000 in
theorem eX7_addTape_48_26 (X : px_X) (M : Nat → Nat → Int32) (J : Nat → Nat → Int64) (R : Nat → Nat → Option Nat) (c e : Nat) (nL : Nat) (xs : Nat → Int32) (D : px_H) (v1 : Int32) (v2 : Int32) (v3 : Int32) : px_p (kX7_addTape X) 48 26 ([some (.ref 14), some (.int (v1)), some (.int (v2)), some (.int (v3))], [], (hp M J R c e nL xs D)) =
    some (some (.int ((M 14 1 - 1))), (hp M J R c e nL xs D)) := rfl
set_option maxRecDepth 40000 in
theorem eX7_hasMark_0 (X : px_X) (M : Nat → Nat → Int32) (J : Nat → Nat → Int64) (R : Nat → Nat → Option Nat) (c e : Nat) (nL : Nat) (xs : Nat → Int32) (D : px_H) (v1 : Int32) : px_run (px_mk (kX7_hasMark X)) 0 ([some (.ref 14), some (.int (v1))], [], (hp M J R c e nL xs D)) =
    cond (decide (v1 < 0))
    (px_run (px_mk (kX7_hasMark X)) 16 ([some (.ref 14), some (.int (v1))], [], (hp M J R c e nL xs D)))
    (cond (decide (M 14 0 ≤ v1))
    (px_run (px_mk (kX7_hasMark X)) 16 ([some (.ref 14), some (.int (v1))], [], (hp M J R c e nL xs D)))
    (px_run (px_mk (kX7_hasMark X)) 17 ([some (.ref 14), some (.int (v1))], [.int (1)], (hp M J R c e nL xs D)))) := (px_run_eq _ _ _).trans rfl
set_option maxRecDepth 40000 in
theorem eX7_hasMark_16 (X : px_X) (M : Nat → Nat → Int32) (J : Nat → Nat → Int64) (R : Nat → Nat → Option Nat) (c e : Nat) (nL : Nat) (xs : Nat → Int32) (D : px_H) (o0 : Option Value) (o1 : Option Value) : px_run (px_mk (kX7_hasMark X)) 16 ([o0, o1], [], (hp M J R c e nL xs D)) =
    px_run (px_mk (kX7_hasMark X)) 17 ([none, none], [.int (0)], (hp M J R c e nL xs D)) := (px_run_eq _ _ _).trans rfl
set_option maxRecDepth 40000 in
theorem eX7_hasMark_17 (X : px_X) (M : Nat → Nat → Int32) (J : Nat → Nat → Int64) (R : Nat → Nat → Option Nat) (c e : Nat) (nL : Nat) (xs : Nat → Int32) (D : px_H) (o0 : Option Value) (o1 : Option Value) (w0 : Int32) : px_run (px_mk (kX7_hasMark X)) 17 ([o0, o1], [.int (w0)], (hp M J R c e nL xs D)) =
    cond (decide (w0 = 0) || decide (w0 = 1)) (some (some (.int (w0)), (hp M J R c e nL xs D))) none := (px_run_eq _ _ _).trans rfl
set_option maxRecDepth 40000 in
theorem eX7_forgetRounds_0 (X : px_X) (M : Nat → Nat → Int32) (J : Nat → Nat → Int64) (R : Nat → Nat → Option Nat) (c e : Nat) (nL : Nat) (xs : Nat → Int32) (D : px_H)  : px_run (px_mk (kX7_forgetRounds X)) 0 ([some (.ref 14), none], [], (hp M J R c e nL xs D)) =
    px_run (px_mk (kX7_forgetRounds X)) 7 ([some (.ref 14), some (.int (0))], [], (hp (px_uR M 14 (upd (M 14) 9 (0))) J R c e nL xs D)) := (px_run_eq _ _ _).trans rfl
set_option maxRecDepth 40000 in
theorem eX7_forgetRounds_7 (X : px_X) (M : Nat → Nat → Int32) (J : Nat → Nat → Int64) (R : Nat → Nat → Option Nat) (c e : Nat) (nL : Nat) (xs : Nat → Int32) (D : px_H) (v1 : Int32) : px_run (px_mk (kX7_forgetRounds X)) 7 ([some (.ref 14), some (.int (v1))], [], (hp M J R c e nL xs D)) =
    cond (decide (M 14 1 ≤ v1))
    (px_run (px_mk (kX7_forgetRounds X)) 29 ([some (.ref 14), some (.int (v1))], [], (hp M J R c e nL xs D)))
    (cond (px_inb (v1) 24)
    (px_run (px_mk (kX7_forgetRounds X)) 7 ([some (.ref 14), some (.int ((v1 + 1)))], [], (hp (px_uR M 24 (upd (M 24) (Int32.toNatClampNeg (v1)) (99))) J R c e nL xs D))) none) := (px_run_eq _ _ _).trans rfl
set_option maxRecDepth 40000 in
theorem eX7_forgetRounds_29 (X : px_X) (M : Nat → Nat → Int32) (J : Nat → Nat → Int64) (R : Nat → Nat → Option Nat) (c e : Nat) (nL : Nat) (xs : Nat → Int32) (D : px_H) (o0 : Option Value) (o1 : Option Value) : px_run (px_mk (kX7_forgetRounds X)) 29 ([o0, o1], [], (hp M J R c e nL xs D)) =
    some (none, (hp M J R c e nL xs D)) := (px_run_eq _ _ _).trans rfl
set_option maxRecDepth 40000 in
theorem eX7_changeBar_0 (X : px_X) (M : Nat → Nat → Int32) (J : Nat → Nat → Int64) (R : Nat → Nat → Option Nat) (c e : Nat) (nL : Nat) (xs : Nat → Int32) (D : px_H) (v1 : Int32) : px_run (px_mk (kX7_changeBar X)) 0 ([some (.ref 14), some (.int (v1)), none], [], (hp M J R c e nL xs D)) =
    cond (decide (v1 < 1))
    (px_run (px_mk (kX7_changeBar X)) 12 ([some (.ref 14), some (.int (v1)), none], [], (hp M J R c e nL xs D)))
    (cond (decide (v1 ≤ 15000))
    (px_run (px_mk (kX7_changeBar X)) 15 ([some (.ref 14), some (.int (v1)), none], [], (hp M J R c e nL xs D)))
    (px_run (px_mk (kX7_changeBar X)) 12 ([some (.ref 14), some (.int (v1)), none], [], (hp M J R c e nL xs D)))) := (px_run_eq _ _ _).trans rfl
set_option maxRecDepth 40000 in
theorem eX7_changeBar_12 (X : px_X) (M : Nat → Nat → Int32) (J : Nat → Nat → Int64) (R : Nat → Nat → Option Nat) (c e : Nat) (nL : Nat) (xs : Nat → Int32) (D : px_H) (o0 : Option Value) (o1 : Option Value) (o2 : Option Value) : px_run (px_mk (kX7_changeBar X)) 12 ([o0, o1, o2], [], (hp M J R c e nL xs D)) =
    some (some (.int ((-2))), (hp M J R c e nL xs D)) := (px_run_eq _ _ _).trans rfl
set_option maxRecDepth 40000 in
theorem eX7_changeBar_15 (X : px_X) (M : Nat → Nat → Int32) (J : Nat → Nat → Int64) (R : Nat → Nat → Option Nat) (c e : Nat) (nL : Nat) (xs : Nat → Int32) (D : px_H) (v1 : Int32) (o2 : Option Value) : px_run (px_mk (kX7_changeBar X)) 15 ([some (.ref 14), some (.int (v1)), o2], [], (hp M J R c e nL xs D)) =
    some (some (.int (M 14 2)), (hp (px_uR M 14 (upd (M 14) 2 (v1))) J R c e nL xs D)) := (px_run_eq _ _ _).trans rfl
set_option maxRecDepth 40000 in
theorem eX7_markTold_0 (X : px_X) (M : Nat → Nat → Int32) (J : Nat → Nat → Int64) (R : Nat → Nat → Option Nat) (c e : Nat) (nL : Nat) (xs : Nat → Int32) (D : px_H) (v1 : Int32) (v2 : Int32) : px_run (px_mk (kX7_markTold X)) 0 ([some (.ref 14), some (.int (v1)), some (.int (v2)), none], [], (hp M J R c e nL xs D)) =
    px_bd (X 82 [.ref 14, .int (v1)] (hp M J R c e nL xs D))
    (fun v G1 => px_p (kX7_markTold X) 0 3 ([some (.ref 14), some (.int (v1)), some (.int (v2)), none], px_psh v [], G1)) := (px_run_eq _ _ _).trans rfl
set_option maxRecDepth 40000 in
theorem eX7_markTold_0_3 (X : px_X) (M : Nat → Nat → Int32) (J : Nat → Nat → Int64) (R : Nat → Nat → Option Nat) (c e : Nat) (nL : Nat) (xs : Nat → Int32) (D : px_H) (v1 : Int32) (v2 : Int32) (w0 : Int32) : px_p (kX7_markTold X) 0 3 ([some (.ref 14), some (.int (v1)), some (.int (v2)), none], [.int (w0)], (hp M J R c e nL xs D)) =
    cond (decide (w0 = 0))
    (px_run (px_mk (kX7_markTold X)) 17 ([some (.ref 14), some (.int (v1)), some (.int (v2)), none], [], (hp M J R c e nL xs D)))
    (cond (decide (v2 < 0))
    (px_run (px_mk (kX7_markTold X)) 17 ([some (.ref 14), some (.int (v1)), some (.int (v2)), none], [], (hp M J R c e nL xs D)))
    (cond (decide (v2 ≤ 1))
    (px_run (px_mk (kX7_markTold X)) 21 ([some (.ref 14), some (.int (v1)), some (.int (v2)), none], [], (hp M J R c e nL xs D)))
    (px_run (px_mk (kX7_markTold X)) 17 ([some (.ref 14), some (.int (v1)), some (.int (v2)), none], [], (hp M J R c e nL xs D))))) := rfl
set_option maxRecDepth 40000 in
theorem eX7_markTold_17 (X : px_X) (M : Nat → Nat → Int32) (J : Nat → Nat → Int64) (R : Nat → Nat → Option Nat) (c e : Nat) (nL : Nat) (xs : Nat → Int32) (D : px_H) (o0 : Option Value) (o1 : Option Value) (o2 : Option Value) (o3 : Option Value) : px_run (px_mk (kX7_markTold X)) 17 ([o0, o1, o2, o3], [], (hp M J R c e nL xs D)) =
    some (some (.long ((-4611686018427387904))), (hp M J R c e nL xs D)) := (px_run_eq _ _ _).trans rfl
set_option maxRecDepth 40000 in
theorem eX7_markTold_21 (X : px_X) (M : Nat → Nat → Int32) (J : Nat → Nat → Int64) (R : Nat → Nat → Option Nat) (c e : Nat) (nL : Nat) (xs : Nat → Int32) (D : px_H) (v1 : Int32) (v2 : Int32) (o3 : Option Value) : px_run (px_mk (kX7_markTold X)) 21 ([some (.ref 14), some (.int (v1)), some (.int (v2)), o3], [], (hp M J R c e nL xs D)) =
    px_bd (X 88 [.ref 14] (hp M J R c e nL xs D))
    (fun v G1 => px_p (kX7_markTold X) 21 3 ([some (.ref 14), some (.int (v1)), some (.int (v2)), none], px_psh v [.int (8)], G1)) := (px_run_eq _ _ _).trans rfl
set_option maxRecDepth 40000 in
theorem eX7_markTold_21_3 (X : px_X) (M : Nat → Nat → Int32) (J : Nat → Nat → Int64) (R : Nat → Nat → Option Nat) (c e : Nat) (nL : Nat) (xs : Nat → Int32) (D : px_H) (v1 : Int32) (v2 : Int32) (w0 : Int32) (w1 : Int32) : px_p (kX7_markTold X) 21 3 ([some (.ref 14), some (.int (v1)), some (.int (v2)), none], [.int (w1), .int (w0)], (hp M J R c e nL xs D)) =
    cond (decide (¬ v2 = 0))
    (px_run (px_mk (kX7_markTold X)) 45 ([some (.ref 14), some (.int (v1)), some (.int (v2)), some (.int (((w0 * w1) + v1)))], [], (hp M J R c e nL xs D)))
    (cond (px_inb (((w0 * w1) + v1)) 200)
    (px_run (px_mk (kX7_markTold X)) 52 ([some (.ref 14), some (.int (v1)), some (.int (v2)), some (.int (((w0 * w1) + v1)))], [.long ((Int32.toInt64 ((M 21) (Int32.toNatClampNeg (((w0 * w1) + v1))))))], (hp M J R c e nL xs D))) none) := rfl
set_option maxRecDepth 40000 in
theorem eX7_markTold_45 (X : px_X) (M : Nat → Nat → Int32) (J : Nat → Nat → Int64) (R : Nat → Nat → Option Nat) (c e : Nat) (nL : Nat) (xs : Nat → Int32) (D : px_H) (o1 : Option Value) (o2 : Option Value) (v3 : Int32) : px_run (px_mk (kX7_markTold X)) 45 ([some (.ref 14), o1, o2, some (.int (v3))], [], (hp M J R c e nL xs D)) =
    cond (px_inb (v3) 200)
    (px_run (px_mk (kX7_markTold X)) 52 ([some (.ref 14), none, none, some (.int (v3))], [.long ((Int32.toInt64 ((M 22) (Int32.toNatClampNeg (v3)))))], (hp M J R c e nL xs D))) none := (px_run_eq _ _ _).trans rfl
set_option maxRecDepth 40000 in
theorem eX7_markTold_52 (X : px_X) (M : Nat → Nat → Int32) (J : Nat → Nat → Int64) (R : Nat → Nat → Option Nat) (c e : Nat) (nL : Nat) (xs : Nat → Int32) (D : px_H) (o0 : Option Value) (o1 : Option Value) (o2 : Option Value) (o3 : Option Value) (w0 : Int64) : px_run (px_mk (kX7_markTold X)) 52 ([o0, o1, o2, o3], [.long (w0)], (hp M J R c e nL xs D)) =
    some (some (.long (w0)), (hp M J R c e nL xs D)) := (px_run_eq _ _ _).trans rfl
set_option maxRecDepth 40000 in
theorem eX7_tapeItem_0 (X : px_X) (M : Nat → Nat → Int32) (J : Nat → Nat → Int64) (R : Nat → Nat → Option Nat) (c e : Nat) (nL : Nat) (xs : Nat → Int32) (D : px_H) (v1 : Int32) (v2 : Int32) : px_run (px_mk (kX7_tapeItem X)) 0 ([some (.ref 14), some (.int (v1)), some (.int (v2))], [], (hp M J R c e nL xs D)) =
    cond (decide (v1 < 0))
    (px_run (px_mk (kX7_tapeItem X)) 12 ([some (.ref 14), some (.int (v1)), some (.int (v2))], [], (hp M J R c e nL xs D)))
    (cond (decide (v1 < M 14 1))
    (px_run (px_mk (kX7_tapeItem X)) 16 ([some (.ref 14), some (.int (v1)), some (.int (v2))], [], (hp M J R c e nL xs D)))
    (px_run (px_mk (kX7_tapeItem X)) 12 ([some (.ref 14), some (.int (v1)), some (.int (v2))], [], (hp M J R c e nL xs D)))) := (px_run_eq _ _ _).trans rfl
set_option maxRecDepth 40000 in
theorem eX7_tapeItem_12 (X : px_X) (M : Nat → Nat → Int32) (J : Nat → Nat → Int64) (R : Nat → Nat → Option Nat) (c e : Nat) (nL : Nat) (xs : Nat → Int32) (D : px_H) (o0 : Option Value) (o1 : Option Value) (o2 : Option Value) : px_run (px_mk (kX7_tapeItem X)) 12 ([o0, o1, o2], [], (hp M J R c e nL xs D)) =
    some (some (.long ((-4611686018427387904))), (hp M J R c e nL xs D)) := (px_run_eq _ _ _).trans rfl
set_option maxRecDepth 40000 in
theorem eX7_tapeItem_16 (X : px_X) (M : Nat → Nat → Int32) (J : Nat → Nat → Int64) (R : Nat → Nat → Option Nat) (c e : Nat) (nL : Nat) (xs : Nat → Int32) (D : px_H) (v1 : Int32) (v2 : Int32) : px_run (px_mk (kX7_tapeItem X)) 16 ([some (.ref 14), some (.int (v1)), some (.int (v2))], [], (hp M J R c e nL xs D)) =
    cond (decide (v2 = 0))
    (px_run (px_mk (kX7_tapeItem X)) 52 ([some (.ref 14), some (.int (v1)), some (.int (v2))], [], (hp M J R c e nL xs D)))
    (cond (decide (v2 = 1))
    (px_run (px_mk (kX7_tapeItem X)) 60 ([some (.ref 14), some (.int (v1)), some (.int (v2))], [], (hp M J R c e nL xs D)))
    (cond (decide (v2 = 2))
    (px_run (px_mk (kX7_tapeItem X)) 68 ([some (.ref 14), some (.int (v1)), some (.int (v2))], [], (hp M J R c e nL xs D)))
    (cond (decide (v2 = 3))
    (px_run (px_mk (kX7_tapeItem X)) 76 ([some (.ref 14), some (.int (v1)), some (.int (v2))], [], (hp M J R c e nL xs D)))
    (cond (decide (v2 = 4))
    (px_run (px_mk (kX7_tapeItem X)) 94 ([some (.ref 14), some (.int (v1)), some (.int (v2))], [], (hp M J R c e nL xs D)))
    (px_run (px_mk (kX7_tapeItem X)) 105 ([some (.ref 14), some (.int (v1)), some (.int (v2))], [], (hp M J R c e nL xs D))))))) := (px_run_eq _ _ _).trans rfl
set_option maxRecDepth 40000 in
theorem eX7_tapeItem_105 (X : px_X) (M : Nat → Nat → Int32) (J : Nat → Nat → Int64) (R : Nat → Nat → Option Nat) (c e : Nat) (nL : Nat) (xs : Nat → Int32) (D : px_H) (o0 : Option Value) (o1 : Option Value) (o2 : Option Value) : px_run (px_mk (kX7_tapeItem X)) 105 ([o0, o1, o2], [], (hp M J R c e nL xs D)) =
    some (some (.long ((-4611686018427387904))), (hp M J R c e nL xs D)) := (px_run_eq _ _ _).trans rfl
set_option maxRecDepth 40000 in
theorem eX7_tapeItem_94 (X : px_X) (M : Nat → Nat → Int32) (J : Nat → Nat → Int64) (R : Nat → Nat → Option Nat) (c e : Nat) (nL : Nat) (xs : Nat → Int32) (D : px_H) (v1 : Int32) (o2 : Option Value) : px_run (px_mk (kX7_tapeItem X)) 94 ([some (.ref 14), some (.int (v1)), o2], [], (hp M J R c e nL xs D)) =
    px_bd (X 88 [.ref 14] (hp M J R c e nL xs D))
    (fun v G1 => px_p (kX7_tapeItem X) 94 4 ([some (.ref 14), some (.int (v1)), none], px_psh v [.int (v1), .ref 14], G1)) := (px_run_eq _ _ _).trans rfl
set_option maxRecDepth 40000 in
theorem eX7_tapeItem_76 (X : px_X) (M : Nat → Nat → Int32) (J : Nat → Nat → Int64) (R : Nat → Nat → Option Nat) (c e : Nat) (nL : Nat) (xs : Nat → Int32) (D : px_H) (v1 : Int32) (o2 : Option Value) : px_run (px_mk (kX7_tapeItem X)) 76 ([some (.ref 14), some (.int (v1)), o2], [], (hp M J R c e nL xs D)) =
    px_bd (X 88 [.ref 14] (hp M J R c e nL xs D))
    (fun v G1 => px_p (kX7_tapeItem X) 76 4 ([some (.ref 14), some (.int (v1)), none], px_psh v [.int (v1), .ref 14], G1)) := (px_run_eq _ _ _).trans rfl
set_option maxRecDepth 40000 in
theorem eX7_tapeItem_68 (X : px_X) (M : Nat → Nat → Int32) (J : Nat → Nat → Int64) (R : Nat → Nat → Option Nat) (c e : Nat) (nL : Nat) (xs : Nat → Int32) (D : px_H) (v1 : Int32) (o2 : Option Value) : px_run (px_mk (kX7_tapeItem X)) 68 ([some (.ref 14), some (.int (v1)), o2], [], (hp M J R c e nL xs D)) =
    cond (px_inb (v1) 24)
    (some (some (.long ((Int32.toInt64 ((M 20) (Int32.toNatClampNeg (v1)))))), (hp M J R c e nL xs D))) none := (px_run_eq _ _ _).trans rfl
set_option maxRecDepth 40000 in
theorem eX7_tapeItem_60 (X : px_X) (M : Nat → Nat → Int32) (J : Nat → Nat → Int64) (R : Nat → Nat → Option Nat) (c e : Nat) (nL : Nat) (xs : Nat → Int32) (D : px_H) (v1 : Int32) (o2 : Option Value) : px_run (px_mk (kX7_tapeItem X)) 60 ([some (.ref 14), some (.int (v1)), o2], [], (hp M J R c e nL xs D)) =
    cond (px_inb (v1) 24)
    (some (some (.long ((Int32.toInt64 ((M 19) (Int32.toNatClampNeg (v1)))))), (hp M J R c e nL xs D))) none := (px_run_eq _ _ _).trans rfl
set_option maxRecDepth 40000 in
theorem eX7_tapeItem_52 (X : px_X) (M : Nat → Nat → Int32) (J : Nat → Nat → Int64) (R : Nat → Nat → Option Nat) (c e : Nat) (nL : Nat) (xs : Nat → Int32) (D : px_H) (v1 : Int32) (o2 : Option Value) : px_run (px_mk (kX7_tapeItem X)) 52 ([some (.ref 14), some (.int (v1)), o2], [], (hp M J R c e nL xs D)) =
    cond (px_inb (v1) 24)
    (some (some (.long ((Int32.toInt64 ((M 18) (Int32.toNatClampNeg (v1)))))), (hp M J R c e nL xs D))) none := (px_run_eq _ _ _).trans rfl
set_option maxRecDepth 40000 in
theorem eX7_tapeItem_94_4 (X : px_X) (M : Nat → Nat → Int32) (J : Nat → Nat → Int64) (R : Nat → Nat → Option Nat) (c e : Nat) (nL : Nat) (xs : Nat → Int32) (D : px_H) (v1 : Int32) (w1 : Int32) (w2 : Int32) : px_p (kX7_tapeItem X) 94 4 ([some (.ref 14), some (.int (v1)), none], [.int (w2), .int (w1), .ref 14], (hp M J R c e nL xs D)) =
    px_bd (X 90 [.ref 14, .int (w1), .int (w2)] (hp M J R c e nL xs D))
    (fun v G1 => px_p (kX7_tapeItem X) 94 5 ([some (.ref 14), some (.int (v1)), none], px_psh v [], G1)) := rfl
set_option maxRecDepth 40000 in
theorem eX7_tapeItem_76_4 (X : px_X) (M : Nat → Nat → Int32) (J : Nat → Nat → Int64) (R : Nat → Nat → Option Nat) (c e : Nat) (nL : Nat) (xs : Nat → Int32) (D : px_H) (v1 : Int32) (w1 : Int32) (w2 : Int32) : px_p (kX7_tapeItem X) 76 4 ([some (.ref 14), some (.int (v1)), none], [.int (w2), .int (w1), .ref 14], (hp M J R c e nL xs D)) =
    px_bd (X 89 [.ref 14, .int (w1), .int (w2)] (hp M J R c e nL xs D))
    (fun v G1 => px_p (kX7_tapeItem X) 76 5 ([some (.ref 14), some (.int (v1)), none], px_psh v [], G1)) := rfl
set_option maxRecDepth 40000 in
theorem eX7_tapeItem_94_5 (X : px_X) (M : Nat → Nat → Int32) (J : Nat → Nat → Int64) (R : Nat → Nat → Option Nat) (c e : Nat) (nL : Nat) (xs : Nat → Int32) (D : px_H) (v1 : Int32) (w0 : Int32) : px_p (kX7_tapeItem X) 94 5 ([some (.ref 14), some (.int (v1)), none], [.int (w0)], (hp M J R c e nL xs D)) =
    some (some (.long ((Int32.toInt64 w0))), (hp M J R c e nL xs D)) := rfl
set_option maxRecDepth 40000 in
theorem eX7_tapeItem_76_5 (X : px_X) (M : Nat → Nat → Int32) (J : Nat → Nat → Int64) (R : Nat → Nat → Option Nat) (c e : Nat) (nL : Nat) (xs : Nat → Int32) (D : px_H) (v1 : Int32) (w0 : Int32) : px_p (kX7_tapeItem X) 76 5 ([some (.ref 14), some (.int (v1)), none], [.int (w0)], (hp M J R c e nL xs D)) =
    cond (decide (w0 = 0))
    (px_run (px_mk (kX7_tapeItem X)) 92 ([some (.ref 14), some (.int (v1)), none], [], (hp M J R c e nL xs D)))
    (px_run (px_mk (kX7_tapeItem X)) 93 ([some (.ref 14), some (.int (v1)), none], [.long (1)], (hp M J R c e nL xs D))) := rfl
set_option maxRecDepth 40000 in
theorem eX7_tapeItem_92 (X : px_X) (M : Nat → Nat → Int32) (J : Nat → Nat → Int64) (R : Nat → Nat → Option Nat) (c e : Nat) (nL : Nat) (xs : Nat → Int32) (D : px_H) (o0 : Option Value) (o1 : Option Value) (o2 : Option Value) : px_run (px_mk (kX7_tapeItem X)) 92 ([o0, o1, o2], [], (hp M J R c e nL xs D)) =
    px_run (px_mk (kX7_tapeItem X)) 93 ([none, none, none], [.long (0)], (hp M J R c e nL xs D)) := (px_run_eq _ _ _).trans rfl
set_option maxRecDepth 40000 in
theorem eX7_tapeItem_93 (X : px_X) (M : Nat → Nat → Int32) (J : Nat → Nat → Int64) (R : Nat → Nat → Option Nat) (c e : Nat) (nL : Nat) (xs : Nat → Int32) (D : px_H) (o0 : Option Value) (o1 : Option Value) (o2 : Option Value) (w0 : Int64) : px_run (px_mk (kX7_tapeItem X)) 93 ([o0, o1, o2], [.long (w0)], (hp M J R c e nL xs D)) =
    some (some (.long (w0)), (hp M J R c e nL xs D)) := (px_run_eq _ _ _).trans rfl
set_option maxRecDepth 40000 in
theorem eX7_squares_0 (X : px_X) (M : Nat → Nat → Int32) (J : Nat → Nat → Int64) (R : Nat → Nat → Option Nat) (c e : Nat) (nL : Nat) (xs : Nat → Int32) (D : px_H)  : px_run (px_mk (kX7_squares X)) 0 ([some (.ref 14), none, none, none, none, none, none], [], (hp M J R c e nL xs D)) =
    px_bd (X 88 [.ref 14] (hp M J R c e nL xs D))
    (fun v G1 => px_p (kX7_squares X) 0 2 ([some (.ref 14), none, none, none, none, none, none], px_psh v [], G1)) := (px_run_eq _ _ _).trans rfl
set_option maxRecDepth 40000 in
theorem eX7_squares_0_2 (X : px_X) (M : Nat → Nat → Int32) (J : Nat → Nat → Int64) (R : Nat → Nat → Option Nat) (c e : Nat) (nL : Nat) (xs : Nat → Int32) (D : px_H) (w0 : Int32) : px_p (kX7_squares X) 0 2 ([some (.ref 14), none, none, none, none, none, none], [.int (w0)], (hp M J R c e nL xs D)) =
    px_run (px_mk (kX7_squares X)) 10 ([some (.ref 14), some (.int (w0)), some (.long (0)), none, some (.int (0)), none, none], [], (hp M J R c e nL xs D)) := rfl
set_option maxRecDepth 40000 in
theorem eX7_squares_10 (X : px_X) (M : Nat → Nat → Int32) (J : Nat → Nat → Int64) (R : Nat → Nat → Option Nat) (c e : Nat) (nL : Nat) (xs : Nat → Int32) (D : px_H) (v1 : Int32) (v2 : Int64) (v4 : Int32) (o5 : Option Value) (o6 : Option Value) : px_run (px_mk (kX7_squares X)) 10 ([some (.ref 14), some (.int (v1)), some (.long (v2)), none, some (.int (v4)), o5, o6], [], (hp M J R c e nL xs D)) =
    cond (decide (M 14 1 ≤ v4))
    (px_run (px_mk (kX7_squares X)) 53 ([some (.ref 14), some (.int (v1)), some (.long (v2)), none, some (.int (v4)), none, none], [], (hp M J R c e nL xs D)))
    (px_bd (X 89 [.ref 14, .int (v4), .int (v1)] (hp M J R c e nL xs D))
    (fun v G1 => px_p (kX7_squares X) 10 8 ([some (.ref 14), some (.int (v1)), some (.long (v2)), none, some (.int (v4)), none, none], px_psh v [], G1))) := (px_run_eq _ _ _).trans rfl
set_option maxRecDepth 40000 in
theorem eX7_squares_53 (X : px_X) (M : Nat → Nat → Int32) (J : Nat → Nat → Int64) (R : Nat → Nat → Option Nat) (c e : Nat) (nL : Nat) (xs : Nat → Int32) (D : px_H) (o0 : Option Value) (o1 : Option Value) (v2 : Int64) (o4 : Option Value) (o5 : Option Value) (o6 : Option Value) : px_run (px_mk (kX7_squares X)) 53 ([o0, o1, some (.long (v2)), none, o4, o5, o6], [], (hp M J R c e nL xs D)) =
    some (some (.long (v2)), (hp M J R c e nL xs D)) := (px_run_eq _ _ _).trans rfl
set_option maxRecDepth 40000 in
theorem eX7_squares_10_8 (X : px_X) (M : Nat → Nat → Int32) (J : Nat → Nat → Int64) (R : Nat → Nat → Option Nat) (c e : Nat) (nL : Nat) (xs : Nat → Int32) (D : px_H) (v1 : Int32) (v2 : Int64) (v4 : Int32) (w0 : Int32) : px_p (kX7_squares X) 10 8 ([some (.ref 14), some (.int (v1)), some (.long (v2)), none, some (.int (v4)), none, none], [.int (w0)], (hp M J R c e nL xs D)) =
    cond (decide (¬ w0 = 0))
    (px_run (px_mk (kX7_squares X)) 47 ([some (.ref 14), some (.int (v1)), some (.long (v2)), none, some (.int (v4)), none, none], [], (hp M J R c e nL xs D)))
    (px_bd (X 90 [.ref 14, .int (v4), .int (v1)] (hp M J R c e nL xs D))
    (fun v G1 => px_p (kX7_squares X) 10 13 ([some (.ref 14), some (.int (v1)), some (.long (v2)), none, some (.int (v4)), none, none], px_psh v [], G1))) := rfl
set_option maxRecDepth 40000 in
theorem eX7_squares_47 (X : px_X) (M : Nat → Nat → Int32) (J : Nat → Nat → Int64) (R : Nat → Nat → Option Nat) (c e : Nat) (nL : Nat) (xs : Nat → Int32) (D : px_H) (v1 : Int32) (v2 : Int64) (v4 : Int32) (o5 : Option Value) (o6 : Option Value) : px_run (px_mk (kX7_squares X)) 47 ([some (.ref 14), some (.int (v1)), some (.long (v2)), none, some (.int (v4)), o5, o6], [], (hp M J R c e nL xs D)) =
    px_run (px_mk (kX7_squares X)) 10 ([some (.ref 14), some (.int (v1)), some (.long (v2)), none, some (.int ((v4 + 1))), none, none], [], (hp M J R c e nL xs D)) := (px_run_eq _ _ _).trans rfl
set_option maxRecDepth 40000 in
theorem eX7_squares_10_13 (X : px_X) (M : Nat → Nat → Int32) (J : Nat → Nat → Int64) (R : Nat → Nat → Option Nat) (c e : Nat) (nL : Nat) (xs : Nat → Int32) (D : px_H) (v1 : Int32) (v2 : Int64) (v4 : Int32) (w0 : Int32) : px_p (kX7_squares X) 10 13 ([some (.ref 14), some (.int (v1)), some (.long (v2)), none, some (.int (v4)), none, none], [.int (w0)], (hp M J R c e nL xs D)) =
    px_run (px_mk (kX7_squares X)) 47 ([some (.ref 14), some (.int (v1)), some (.long ((v2 + ((Int32.toInt64 w0) * (Int32.toInt64 w0))))), none, some (.int (v4)), some (.long ((Int32.toInt64 w0))), none], [], (hp M J R c e nL xs D)) := rfl
set_option maxRecDepth 40000 in
theorem eX7_fittedRound_0 (X : px_X) (M : Nat → Nat → Int32) (J : Nat → Nat → Int64) (R : Nat → Nat → Option Nat) (c e : Nat) (nL : Nat) (xs : Nat → Int32) (D : px_H)  : px_run (px_mk (kX7_fittedRound X)) 0 ([some (.ref 14), none], [], (hp M J R c e nL xs D)) =
    px_run (px_mk (kX7_fittedRound X)) 2 ([some (.ref 14), some (.int (0))], [], (hp M J R c e nL xs D)) := (px_run_eq _ _ _).trans rfl
set_option maxRecDepth 40000 in
theorem eX7_fittedRound_2 (X : px_X) (M : Nat → Nat → Int32) (J : Nat → Nat → Int64) (R : Nat → Nat → Option Nat) (c e : Nat) (nL : Nat) (xs : Nat → Int32) (D : px_H) (v1 : Int32) : px_run (px_mk (kX7_fittedRound X)) 2 ([some (.ref 14), some (.int (v1))], [], (hp M J R c e nL xs D)) =
    cond (decide (M 14 1 ≤ v1))
    (px_run (px_mk (kX7_fittedRound X)) 36 ([some (.ref 14), some (.int (v1))], [], (hp M J R c e nL xs D)))
    (px_bd (X 92 [.ref 14, .int (v1)] (hp M J R c e nL xs D))
    (fun v G1 => px_p (kX7_fittedRound X) 2 7 ([some (.ref 14), some (.int (v1))], px_psh v [], G1))) := (px_run_eq _ _ _).trans rfl
set_option maxRecDepth 40000 in
theorem eX7_fittedRound_36 (X : px_X) (M : Nat → Nat → Int32) (J : Nat → Nat → Int64) (R : Nat → Nat → Option Nat) (c e : Nat) (nL : Nat) (xs : Nat → Int32) (D : px_H) (o1 : Option Value) : px_run (px_mk (kX7_fittedRound X)) 36 ([some (.ref 14), o1], [], (hp M J R c e nL xs D)) =
    px_bd (X 92 [.ref 14, .int (M 14 1)] (hp M J R c e nL xs D))
    (fun v G1 => px_p (kX7_fittedRound X) 36 4 ([some (.ref 14), none], px_psh v [], G1)) := (px_run_eq _ _ _).trans rfl
set_option maxRecDepth 40000 in
theorem eX7_fittedRound_2_7 (X : px_X) (M : Nat → Nat → Int32) (J : Nat → Nat → Int64) (R : Nat → Nat → Option Nat) (c e : Nat) (nL : Nat) (xs : Nat → Int32) (D : px_H) (v1 : Int32) : px_p (kX7_fittedRound X) 2 7 ([some (.ref 14), some (.int (v1))], [], (hp M J R c e nL xs D)) =
    cond (px_inb (v1) 25)
    (cond (decide (M 14 2 < ((M 23) (Int32.toNatClampNeg (v1)))))
    (px_run (px_mk (kX7_fittedRound X)) 30 ([some (.ref 14), some (.int (v1))], [], (hp M J R c e nL xs D)))
    (some (some (.int (v1)), (hp M J R c e nL xs D)))) none := rfl
set_option maxRecDepth 40000 in
theorem eX7_fittedRound_36_4 (X : px_X) (M : Nat → Nat → Int32) (J : Nat → Nat → Int64) (R : Nat → Nat → Option Nat) (c e : Nat) (nL : Nat) (xs : Nat → Int32) (D : px_H)  : px_p (kX7_fittedRound X) 36 4 ([some (.ref 14), none], [], (hp M J R c e nL xs D)) =
    some (some (.int (M 14 1)), (hp M J R c e nL xs D)) := rfl
set_option maxRecDepth 40000 in
theorem eX7_fittedRound_30 (X : px_X) (M : Nat → Nat → Int32) (J : Nat → Nat → Int64) (R : Nat → Nat → Option Nat) (c e : Nat) (nL : Nat) (xs : Nat → Int32) (D : px_H) (v1 : Int32) : px_run (px_mk (kX7_fittedRound X)) 30 ([some (.ref 14), some (.int (v1))], [], (hp M J R c e nL xs D)) =
    px_run (px_mk (kX7_fittedRound X)) 2 ([some (.ref 14), some (.int ((v1 + 1)))], [], (hp M J R c e nL xs D)) := (px_run_eq _ _ _).trans rfl
set_option maxRecDepth 40000 in
theorem eX7_isOut_0 (X : px_X) (M : Nat → Nat → Int32) (J : Nat → Nat → Int64) (R : Nat → Nat → Option Nat) (c e : Nat) (nL : Nat) (xs : Nat → Int32) (D : px_H) (v1 : Int32) (v2 : Int32) : px_run (px_mk (kX7_isOut X)) 0 ([some (.ref 14), some (.int (v1)), some (.int (v2))], [], (hp M J R c e nL xs D)) =
    cond (px_inb (v1) 24)
    (cond (decide (v2 < ((M 24) (Int32.toNatClampNeg (v1)))))
    (px_run (px_mk (kX7_isOut X)) 14 ([some (.ref 14), some (.int (v1)), some (.int (v2))], [], (hp M J R c e nL xs D)))
    (px_run (px_mk (kX7_isOut X)) 15 ([some (.ref 14), some (.int (v1)), some (.int (v2))], [.int (1)], (hp M J R c e nL xs D)))) none := (px_run_eq _ _ _).trans rfl
set_option maxRecDepth 40000 in
theorem eX7_isOut_14 (X : px_X) (M : Nat → Nat → Int32) (J : Nat → Nat → Int64) (R : Nat → Nat → Option Nat) (c e : Nat) (nL : Nat) (xs : Nat → Int32) (D : px_H) (o0 : Option Value) (o1 : Option Value) (o2 : Option Value) : px_run (px_mk (kX7_isOut X)) 14 ([o0, o1, o2], [], (hp M J R c e nL xs D)) =
    px_run (px_mk (kX7_isOut X)) 15 ([none, none, none], [.int (0)], (hp M J R c e nL xs D)) := (px_run_eq _ _ _).trans rfl
set_option maxRecDepth 40000 in
theorem eX7_isOut_15 (X : px_X) (M : Nat → Nat → Int32) (J : Nat → Nat → Int64) (R : Nat → Nat → Option Nat) (c e : Nat) (nL : Nat) (xs : Nat → Int32) (D : px_H) (o0 : Option Value) (o1 : Option Value) (o2 : Option Value) (w0 : Int32) : px_run (px_mk (kX7_isOut X)) 15 ([o0, o1, o2], [.int (w0)], (hp M J R c e nL xs D)) =
    cond (decide (w0 = 0) || decide (w0 = 1)) (some (some (.int (w0)), (hp M J R c e nL xs D))) none := (px_run_eq _ _ _).trans rfl
set_option maxRecDepth 40000 in
theorem eX7_miss_0 (X : px_X) (M : Nat → Nat → Int32) (J : Nat → Nat → Int64) (R : Nat → Nat → Option Nat) (c e : Nat) (nL : Nat) (xs : Nat → Int32) (D : px_H) (v1 : Int32) (v2 : Int32) : px_run (px_mk (kX7_miss X)) 0 ([some (.ref 14), some (.int (v1)), some (.int (v2)), none, none], [], (hp M J R c e nL xs D)) =
    cond (px_inb (v1) 24)
    (cond (px_inb (v1) 24)
    (cond (px_inb (((8 * v2) + ((M 18) (Int32.toNatClampNeg (v1))))) 200)
    (cond (px_inb (((8 * v2) + ((M 19) (Int32.toNatClampNeg (v1))))) 200)
    (cond (px_inb (((8 * v2) + ((M 18) (Int32.toNatClampNeg (v1))))) 200)
    (cond (px_inb (((8 * v2) + ((M 19) (Int32.toNatClampNeg (v1))))) 200)
    (cond (px_inb (v1) 24)
    (px_bd (X 91 [.int ((((M 21) (Int32.toNatClampNeg (((8 * v2) + ((M 18) (Int32.toNatClampNeg (v1))))))) - ((M 21) (Int32.toNatClampNeg (((8 * v2) + ((M 19) (Int32.toNatClampNeg (v1))))))))), .int ((((M 22) (Int32.toNatClampNeg (((8 * v2) + ((M 18) (Int32.toNatClampNeg (v1))))))) - ((M 22) (Int32.toNatClampNeg (((8 * v2) + ((M 19) (Int32.toNatClampNeg (v1))))))))), .int (((M 20) (Int32.toNatClampNeg (v1))))] (hp M J R c e nL xs D))
    (fun v G1 => px_p (kX7_miss X) 0 41 ([some (.ref 14), some (.int (v1)), some (.int (v2)), some (.int (((8 * v2) + ((M 18) (Int32.toNatClampNeg (v1)))))), some (.int (((8 * v2) + ((M 19) (Int32.toNatClampNeg (v1))))))], px_psh v [], G1))) none) none) none) none) none) none) none := (px_run_eq _ _ _).trans rfl
set_option maxRecDepth 40000 in
theorem eX7_miss_0_41 (X : px_X) (M : Nat → Nat → Int32) (J : Nat → Nat → Int64) (R : Nat → Nat → Option Nat) (c e : Nat) (nL : Nat) (xs : Nat → Int32) (D : px_H) (v1 : Int32) (v2 : Int32) (v3 : Int32) (v4 : Int32) (w0 : Int32) : px_p (kX7_miss X) 0 41 ([some (.ref 14), some (.int (v1)), some (.int (v2)), some (.int (v3)), some (.int (v4))], [.int (w0)], (hp M J R c e nL xs D)) =
    cond (px_inb (v1) 24)
    (some (some (.int ((w0 - ((M 20) (Int32.toNatClampNeg (v1)))))), (hp M J R c e nL xs D))) none := rfl
set_option maxRecDepth 40000 in
theorem eX7_distance_0 (X : px_X) (M : Nat → Nat → Int32) (J : Nat → Nat → Int64) (R : Nat → Nat → Option Nat) (c e : Nat) (nL : Nat) (xs : Nat → Int32) (D : px_H) (v0 : Int32) (v1 : Int32) (v2 : Int32) : px_run (px_mk (kX7_distance X)) 0 ([some (.int (v0)), some (.int (v1)), some (.int (v2)), none, none, none, none], [], (hp M J R c e nL xs D)) =
    cond (decide (((v0 * v0) + (v1 * v1)) < 1))
    (px_run (px_mk (kX7_distance X)) 18 ([some (.int (v0)), some (.int (v1)), some (.int (v2)), some (.int (((v0 * v0) + (v1 * v1)))), none, none, none], [], (hp M J R c e nL xs D)))
    (cond (decide (1 ≤ v2))
    (px_run (px_mk (kX7_distance X)) 20 ([some (.int (v0)), some (.int (v1)), some (.int (v2)), some (.int (((v0 * v0) + (v1 * v1)))), none, none, none], [], (hp M J R c e nL xs D)))
    (px_run (px_mk (kX7_distance X)) 18 ([some (.int (v0)), some (.int (v1)), some (.int (v2)), some (.int (((v0 * v0) + (v1 * v1)))), none, none, none], [], (hp M J R c e nL xs D)))) := (px_run_eq _ _ _).trans rfl
set_option maxRecDepth 40000 in
theorem eX7_distance_18 (X : px_X) (M : Nat → Nat → Int32) (J : Nat → Nat → Int64) (R : Nat → Nat → Option Nat) (c e : Nat) (nL : Nat) (xs : Nat → Int32) (D : px_H) (o0 : Option Value) (o1 : Option Value) (o2 : Option Value) (o3 : Option Value) (o4 : Option Value) (o5 : Option Value) (o6 : Option Value) : px_run (px_mk (kX7_distance X)) 18 ([o0, o1, o2, o3, o4, o5, o6], [], (hp M J R c e nL xs D)) =
    some (some (.int (0)), (hp M J R c e nL xs D)) := (px_run_eq _ _ _).trans rfl
set_option maxRecDepth 40000 in
theorem eX7_distance_20 (X : px_X) (M : Nat → Nat → Int32) (J : Nat → Nat → Int64) (R : Nat → Nat → Option Nat) (c e : Nat) (nL : Nat) (xs : Nat → Int32) (D : px_H) (o0 : Option Value) (o1 : Option Value) (v2 : Int32) (v3 : Int32) (o4 : Option Value) (o5 : Option Value) (o6 : Option Value) : px_run (px_mk (kX7_distance X)) 20 ([o0, o1, some (.int (v2)), some (.int (v3)), o4, o5, o6], [], (hp M J R c e nL xs D)) =
    cond (!(decide (v2 = 0)))
    (px_run (px_mk (kX7_distance X)) 32 ([none, none, some (.int (v2)), some (.int (v3)), some (.int (((v2 + (v3 / v2)) / 2))), some (.int (0)), none], [], (hp M J R c e nL xs D))) none := (px_run_eq _ _ _).trans rfl
set_option maxRecDepth 40000 in
theorem eX7_distance_32 (X : px_X) (M : Nat → Nat → Int32) (J : Nat → Nat → Int64) (R : Nat → Nat → Option Nat) (c e : Nat) (nL : Nat) (xs : Nat → Int32) (D : px_H) (o0 : Option Value) (o1 : Option Value) (o2 : Option Value) (v3 : Int32) (v4 : Int32) (v5 : Int32) (o6 : Option Value) : px_run (px_mk (kX7_distance X)) 32 ([o0, o1, o2, some (.int (v3)), some (.int (v4)), some (.int (v5)), o6], [], (hp M J R c e nL xs D)) =
    cond (decide (60 ≤ v5))
    (px_run (px_mk (kX7_distance X)) 75 ([none, none, none, some (.int (v3)), some (.int (v4)), some (.int (v5)), none], [], (hp M J R c e nL xs D)))
    (cond (decide (v4 ≤ 0))
    (px_run (px_mk (kX7_distance X)) 75 ([none, none, none, some (.int (v3)), some (.int (v4)), some (.int (v5)), none], [], (hp M J R c e nL xs D)))
    (cond (!(decide (v4 = 0)))
    (cond (decide (((v4 + (v3 / v4)) / 2) < v4))
    (px_run (px_mk (kX7_distance X)) 65 ([none, none, none, some (.int (v3)), some (.int (v4)), some (.int (v5)), some (.int (((v4 + (v3 / v4)) / 2)))], [], (hp M J R c e nL xs D)))
    (px_run (px_mk (kX7_distance X)) 75 ([none, none, none, some (.int (v3)), some (.int (v4)), some (.int (v5)), some (.int (((v4 + (v3 / v4)) / 2)))], [], (hp M J R c e nL xs D)))) none)) := (px_run_eq _ _ _).trans rfl
set_option maxRecDepth 40000 in
theorem eX7_distance_75 (X : px_X) (M : Nat → Nat → Int32) (J : Nat → Nat → Int64) (R : Nat → Nat → Option Nat) (c e : Nat) (nL : Nat) (xs : Nat → Int32) (D : px_H) (o0 : Option Value) (o1 : Option Value) (o2 : Option Value) (o3 : Option Value) (v4 : Int32) (o5 : Option Value) (o6 : Option Value) : px_run (px_mk (kX7_distance X)) 75 ([o0, o1, o2, o3, some (.int (v4)), o5, o6], [], (hp M J R c e nL xs D)) =
    some (some (.int (v4)), (hp M J R c e nL xs D)) := (px_run_eq _ _ _).trans rfl
set_option maxRecDepth 40000 in
theorem eX7_distance_65 (X : px_X) (M : Nat → Nat → Int32) (J : Nat → Nat → Int64) (R : Nat → Nat → Option Nat) (c e : Nat) (nL : Nat) (xs : Nat → Int32) (D : px_H) (o0 : Option Value) (o1 : Option Value) (o2 : Option Value) (v3 : Int32) (o4 : Option Value) (v5 : Int32) (v6 : Int32) : px_run (px_mk (kX7_distance X)) 65 ([o0, o1, o2, some (.int (v3)), o4, some (.int (v5)), some (.int (v6))], [], (hp M J R c e nL xs D)) =
    px_run (px_mk (kX7_distance X)) 32 ([none, none, none, some (.int (v3)), some (.int (v6)), some (.int ((v5 + 1))), some (.int (v6))], [], (hp M J R c e nL xs D)) := (px_run_eq _ _ _).trans rfl
set_option maxRecDepth 40000 in
theorem eX7_fitIfNew_0 (X : px_X) (M : Nat → Nat → Int32) (J : Nat → Nat → Int64) (R : Nat → Nat → Option Nat) (c e : Nat) (nL : Nat) (xs : Nat → Int32) (D : px_H) (v1 : Int32) : px_run (px_mk (kX7_fitIfNew X)) 0 ([some (.ref 14), some (.int (v1)), none, none, none, none], [], (hp M J R c e nL xs D)) =
    cond (decide (M 14 9 ≤ v1))
    (px_run (px_mk (kX7_fitIfNew X)) 9 ([some (.ref 14), some (.int (v1)), none, none, none, none], [], (hp M J R c e nL xs D)))
    (some (none, (hp M J R c e nL xs D))) := (px_run_eq _ _ _).trans rfl
set_option maxRecDepth 40000 in
theorem eX7_fitIfNew_9 (X : px_X) (M : Nat → Nat → Int32) (J : Nat → Nat → Int64) (R : Nat → Nat → Option Nat) (c e : Nat) (nL : Nat) (xs : Nat → Int32) (D : px_H) (v1 : Int32) (o2 : Option Value) (o3 : Option Value) (o4 : Option Value) (o5 : Option Value) : px_run (px_mk (kX7_fitIfNew X)) 9 ([some (.ref 14), some (.int (v1)), o2, o3, o4, o5], [], (hp M J R c e nL xs D)) =
    px_bd (X 93 [.ref 14, .int (v1)] (hp M J R c e nL xs D))
    (fun v G1 => px_p (kX7_fitIfNew X) 9 3 ([some (.ref 14), some (.int (v1)), none, none, none, none], px_psh v [], G1)) := (px_run_eq _ _ _).trans rfl
set_option maxRecDepth 40000 in
theorem eX7_fitIfNew_9_3 (X : px_X) (M : Nat → Nat → Int32) (J : Nat → Nat → Int64) (R : Nat → Nat → Option Nat) (c e : Nat) (nL : Nat) (xs : Nat → Int32) (D : px_H) (v1 : Int32) : px_p (kX7_fitIfNew X) 9 3 ([some (.ref 14), some (.int (v1)), none, none, none, none], [], (hp M J R c e nL xs D)) =
    px_run (px_mk (kX7_fitIfNew X)) 18 ([some (.ref 14), some (.int (v1)), some (.int (512)), none, none, none], [], (hp M J R c e nL xs D)) := rfl
set_option maxRecDepth 40000 in
theorem eX7_fitIfNew_18 (X : px_X) (M : Nat → Nat → Int32) (J : Nat → Nat → Int64) (R : Nat → Nat → Option Nat) (c e : Nat) (nL : Nat) (xs : Nat → Int32) (D : px_H) (v1 : Int32) (v2 : Int32) (o3 : Option Value) (o4 : Option Value) (o5 : Option Value) : px_run (px_mk (kX7_fitIfNew X)) 18 ([some (.ref 14), some (.int (v1)), some (.int (v2)), o3, o4, o5], [], (hp M J R c e nL xs D)) =
    cond (decide (v2 < 1))
    (px_run (px_mk (kX7_fitIfNew X)) 94 ([some (.ref 14), some (.int (v1)), some (.int (v2)), none, none, none], [], (hp M J R c e nL xs D)))
    (px_run (px_mk (kX7_fitIfNew X)) 28 ([some (.ref 14), some (.int (v1)), some (.int (v2)), some (.int (1)), some (.int (0)), none], [], (hp M J R c e nL xs D))) := (px_run_eq _ _ _).trans rfl
set_option maxRecDepth 40000 in
theorem eX7_fitIfNew_94 (X : px_X) (M : Nat → Nat → Int32) (J : Nat → Nat → Int64) (R : Nat → Nat → Option Nat) (c e : Nat) (nL : Nat) (xs : Nat → Int32) (D : px_H) (v1 : Int32) (o2 : Option Value) (o3 : Option Value) (o4 : Option Value) (o5 : Option Value) : px_run (px_mk (kX7_fitIfNew X)) 94 ([some (.ref 14), some (.int (v1)), o2, o3, o4, o5], [], (hp M J R c e nL xs D)) =
    px_bd (X 97 [.ref 14, .int (v1)] (hp M J R c e nL xs D))
    (fun v G1 => px_p (kX7_fitIfNew X) 94 3 ([some (.ref 14), some (.int (v1)), none, none, none, none], px_psh v [], G1)) := (px_run_eq _ _ _).trans rfl
set_option maxRecDepth 40000 in
theorem eX7_fitIfNew_28 (X : px_X) (M : Nat → Nat → Int32) (J : Nat → Nat → Int64) (R : Nat → Nat → Option Nat) (c e : Nat) (nL : Nat) (xs : Nat → Int32) (D : px_H) (v1 : Int32) (v2 : Int32) (v3 : Int32) (v4 : Int32) (o5 : Option Value) : px_run (px_mk (kX7_fitIfNew X)) 28 ([some (.ref 14), some (.int (v1)), some (.int (v2)), some (.int (v3)), some (.int (v4)), o5], [], (hp M J R c e nL xs D)) =
    cond (decide (4 ≤ v4))
    (px_run (px_mk (kX7_fitIfNew X)) 87 ([some (.ref 14), some (.int (v1)), some (.int (v2)), some (.int (v3)), some (.int (v4)), none], [], (hp M J R c e nL xs D)))
    (cond (decide (v3 = 0))
    (px_run (px_mk (kX7_fitIfNew X)) 87 ([some (.ref 14), some (.int (v1)), some (.int (v2)), some (.int (v3)), some (.int (v4)), none], [], (hp M J R c e nL xs D)))
    (px_run (px_mk (kX7_fitIfNew X)) 43 ([some (.ref 14), some (.int (v1)), some (.int (v2)), some (.int (0)), some (.int (v4)), some (.int (0))], [], (hp M J R c e nL xs D)))) := (px_run_eq _ _ _).trans rfl
set_option maxRecDepth 40000 in
theorem eX7_fitIfNew_94_3 (X : px_X) (M : Nat → Nat → Int32) (J : Nat → Nat → Int64) (R : Nat → Nat → Option Nat) (c e : Nat) (nL : Nat) (xs : Nat → Int32) (D : px_H) (v1 : Int32) : px_p (kX7_fitIfNew X) 94 3 ([some (.ref 14), some (.int (v1)), none, none, none, none], [], (hp M J R c e nL xs D)) =
    some (none, (hp (px_uR M 14 (upd (M 14) 9 ((v1 + 1)))) J R c e nL xs D)) := rfl
set_option maxRecDepth 40000 in
theorem eX7_fitIfNew_87 (X : px_X) (M : Nat → Nat → Int32) (J : Nat → Nat → Int64) (R : Nat → Nat → Option Nat) (c e : Nat) (nL : Nat) (xs : Nat → Int32) (D : px_H) (v1 : Int32) (v2 : Int32) (o3 : Option Value) (o4 : Option Value) (o5 : Option Value) : px_run (px_mk (kX7_fitIfNew X)) 87 ([some (.ref 14), some (.int (v1)), some (.int (v2)), o3, o4, o5], [], (hp M J R c e nL xs D)) =
    px_run (px_mk (kX7_fitIfNew X)) 18 ([some (.ref 14), some (.int (v1)), some (.int ((v2 / 2))), none, none, none], [], (hp M J R c e nL xs D)) := (px_run_eq _ _ _).trans rfl
set_option maxRecDepth 40000 in
theorem eX7_fitIfNew_43 (X : px_X) (M : Nat → Nat → Int32) (J : Nat → Nat → Int64) (R : Nat → Nat → Option Nat) (c e : Nat) (nL : Nat) (xs : Nat → Int32) (D : px_H) (v1 : Int32) (v2 : Int32) (v3 : Int32) (v4 : Int32) (v5 : Int32) : px_run (px_mk (kX7_fitIfNew X)) 43 ([some (.ref 14), some (.int (v1)), some (.int (v2)), some (.int (v3)), some (.int (v4)), some (.int (v5))], [], (hp M J R c e nL xs D)) =
    cond (decide (M 14 0 ≤ v5))
    (px_run (px_mk (kX7_fitIfNew X)) 81 ([some (.ref 14), some (.int (v1)), some (.int (v2)), some (.int (v3)), some (.int (v4)), some (.int (v5))], [], (hp M J R c e nL xs D)))
    (cond (px_inb (v5) 8)
    (cond (decide (¬ ((M 17) (Int32.toNatClampNeg (v5))) = 0))
    (px_run (px_mk (kX7_fitIfNew X)) 75 ([some (.ref 14), some (.int (v1)), some (.int (v2)), some (.int (v3)), some (.int (v4)), some (.int (v5))], [], (hp M J R c e nL xs D)))
    (px_bd (X 95 [.ref 14, .int (v5), .int (v1), .int (v2)] (hp M J R c e nL xs D))
    (fun v G1 => px_p (kX7_fitIfNew X) 43 14 ([some (.ref 14), some (.int (v1)), some (.int (v2)), some (.int (v3)), some (.int (v4)), some (.int (v5))], px_psh v [], G1)))) none) := (px_run_eq _ _ _).trans rfl
set_option maxRecDepth 40000 in
theorem eX7_fitIfNew_81 (X : px_X) (M : Nat → Nat → Int32) (J : Nat → Nat → Int64) (R : Nat → Nat → Option Nat) (c e : Nat) (nL : Nat) (xs : Nat → Int32) (D : px_H) (v1 : Int32) (v2 : Int32) (v3 : Int32) (v4 : Int32) (o5 : Option Value) : px_run (px_mk (kX7_fitIfNew X)) 81 ([some (.ref 14), some (.int (v1)), some (.int (v2)), some (.int (v3)), some (.int (v4)), o5], [], (hp M J R c e nL xs D)) =
    px_run (px_mk (kX7_fitIfNew X)) 28 ([some (.ref 14), some (.int (v1)), some (.int (v2)), some (.int (v3)), some (.int ((v4 + 1))), none], [], (hp M J R c e nL xs D)) := (px_run_eq _ _ _).trans rfl
set_option maxRecDepth 40000 in
theorem eX7_fitIfNew_75 (X : px_X) (M : Nat → Nat → Int32) (J : Nat → Nat → Int64) (R : Nat → Nat → Option Nat) (c e : Nat) (nL : Nat) (xs : Nat → Int32) (D : px_H) (v1 : Int32) (v2 : Int32) (v3 : Int32) (v4 : Int32) (v5 : Int32) : px_run (px_mk (kX7_fitIfNew X)) 75 ([some (.ref 14), some (.int (v1)), some (.int (v2)), some (.int (v3)), some (.int (v4)), some (.int (v5))], [], (hp M J R c e nL xs D)) =
    px_run (px_mk (kX7_fitIfNew X)) 43 ([some (.ref 14), some (.int (v1)), some (.int (v2)), some (.int (v3)), some (.int (v4)), some (.int ((v5 + 1)))], [], (hp M J R c e nL xs D)) := (px_run_eq _ _ _).trans rfl
set_option maxRecDepth 40000 in
theorem eX7_fitIfNew_43_14 (X : px_X) (M : Nat → Nat → Int32) (J : Nat → Nat → Int64) (R : Nat → Nat → Option Nat) (c e : Nat) (nL : Nat) (xs : Nat → Int32) (D : px_H) (v1 : Int32) (v2 : Int32) (v3 : Int32) (v4 : Int32) (v5 : Int32) (w0 : Int32) : px_p (kX7_fitIfNew X) 43 14 ([some (.ref 14), some (.int (v1)), some (.int (v2)), some (.int (v3)), some (.int (v4)), some (.int (v5))], [.int (w0)], (hp M J R c e nL xs D)) =
    cond (decide (w0 = 0))
    (px_run (px_mk (kX7_fitIfNew X)) 75 ([some (.ref 14), some (.int (v1)), some (.int (v2)), some (.int (v3)), some (.int (v4)), some (.int (v5))], [], (hp M J R c e nL xs D)))
    (px_run (px_mk (kX7_fitIfNew X)) 75 ([some (.ref 14), some (.int (v1)), some (.int (v2)), some (.int (1)), some (.int (v4)), some (.int (v5))], [], (hp M J R c e nL xs D))) := rfl
set_option maxRecDepth 40000 in
theorem eX7_goToTold_0 (X : px_X) (M : Nat → Nat → Int32) (J : Nat → Nat → Int64) (R : Nat → Nat → Option Nat) (c e : Nat) (nL : Nat) (xs : Nat → Int32) (D : px_H) (v1 : Int32) : px_run (px_mk (kX7_goToTold X)) 0 ([some (.ref 14), some (.int (v1)), none], [], (hp M J R c e nL xs D)) =
    px_run (px_mk (kX7_goToTold X)) 2 ([some (.ref 14), some (.int (v1)), some (.int (0))], [], (hp M J R c e nL xs D)) := (px_run_eq _ _ _).trans rfl
set_option maxRecDepth 40000 in
theorem eX7_goToTold_2 (X : px_X) (M : Nat → Nat → Int32) (J : Nat → Nat → Int64) (R : Nat → Nat → Option Nat) (c e : Nat) (nL : Nat) (xs : Nat → Int32) (D : px_H) (v1 : Int32) (v2 : Int32) : px_run (px_mk (kX7_goToTold X)) 2 ([some (.ref 14), some (.int (v1)), some (.int (v2))], [], (hp M J R c e nL xs D)) =
    cond (decide (M 14 0 ≤ v2))
    (px_run (px_mk (kX7_goToTold X)) 50 ([some (.ref 14), some (.int (v1)), some (.int (v2))], [], (hp M J R c e nL xs D)))
    (cond (px_inb (v2) 8)
    (cond (px_inb (((8 * v1) + v2)) 200)
    (cond (px_inb (v2) 8)
    (cond (px_inb (((8 * v1) + v2)) 200)
    (px_run (px_mk (kX7_goToTold X)) 2 ([some (.ref 14), some (.int (v1)), some (.int ((v2 + 1)))], [], (hp (px_uR (px_uR M 21 (upd (M 21) (Int32.toNatClampNeg (((8 * v1) + v2))) (((M 15) (Int32.toNatClampNeg (v2)))))) 22 (upd (M 22) (Int32.toNatClampNeg (((8 * v1) + v2))) (((M 16) (Int32.toNatClampNeg (v2)))))) J R c e nL xs D))) none) none) none) none) := (px_run_eq _ _ _).trans rfl
set_option maxRecDepth 40000 in
theorem eX7_goToTold_50 (X : px_X) (M : Nat → Nat → Int32) (J : Nat → Nat → Int64) (R : Nat → Nat → Option Nat) (c e : Nat) (nL : Nat) (xs : Nat → Int32) (D : px_H) (o0 : Option Value) (o1 : Option Value) (o2 : Option Value) : px_run (px_mk (kX7_goToTold X)) 50 ([o0, o1, o2], [], (hp M J R c e nL xs D)) =
    some (none, (hp M J R c e nL xs D)) := (px_run_eq _ _ _).trans rfl
set_option maxRecDepth 40000 in
theorem eX7_gatherNear_0 (X : px_X) (M : Nat → Nat → Int32) (J : Nat → Nat → Int64) (R : Nat → Nat → Option Nat) (c e : Nat) (nL : Nat) (xs : Nat → Int32) (D : px_H) (v1 : Int32) (v2 : Int32) : px_run (px_mk (kX7_gatherNear X)) 0 ([some (.ref 14), some (.int (v1)), some (.int (v2)), none, none, none], [], (hp M J R c e nL xs D)) =
    px_run (px_mk (kX7_gatherNear X)) 7 ([some (.ref 14), some (.int (v1)), some (.int (v2)), some (.int (0)), none, none], [], (hp (px_uR M 14 (upd (M 14) 14 (0))) J R c e nL xs D)) := (px_run_eq _ _ _).trans rfl
set_option maxRecDepth 40000 in
theorem eX7_gatherNear_7 (X : px_X) (M : Nat → Nat → Int32) (J : Nat → Nat → Int64) (R : Nat → Nat → Option Nat) (c e : Nat) (nL : Nat) (xs : Nat → Int32) (D : px_H) (v1 : Int32) (v2 : Int32) (v3 : Int32) (o4 : Option Value) (o5 : Option Value) : px_run (px_mk (kX7_gatherNear X)) 7 ([some (.ref 14), some (.int (v1)), some (.int (v2)), some (.int (v3)), o4, o5], [], (hp M J R c e nL xs D)) =
    cond (decide (M 14 1 ≤ v3))
    (px_run (px_mk (kX7_gatherNear X)) 146 ([some (.ref 14), some (.int (v1)), some (.int (v2)), some (.int (v3)), none, none], [], (hp M J R c e nL xs D)))
    (cond (px_inb (v3) 24)
    (cond (decide (¬ ((M 18) (Int32.toNatClampNeg (v3))) = v1))
    (px_run (px_mk (kX7_gatherNear X)) 29 ([some (.ref 14), some (.int (v1)), some (.int (v2)), some (.int (v3)), none, none], [], (hp M J R c e nL xs D)))
    (px_run (px_mk (kX7_gatherNear X)) 30 ([some (.ref 14), some (.int (v1)), some (.int (v2)), some (.int (v3)), none, none], [.int (1)], (hp M J R c e nL xs D)))) none) := (px_run_eq _ _ _).trans rfl
set_option maxRecDepth 40000 in
theorem eX7_gatherNear_146 (X : px_X) (M : Nat → Nat → Int32) (J : Nat → Nat → Int64) (R : Nat → Nat → Option Nat) (c e : Nat) (nL : Nat) (xs : Nat → Int32) (D : px_H) (o0 : Option Value) (o1 : Option Value) (o2 : Option Value) (o3 : Option Value) (o4 : Option Value) (o5 : Option Value) : px_run (px_mk (kX7_gatherNear X)) 146 ([o0, o1, o2, o3, o4, o5], [], (hp M J R c e nL xs D)) =
    some (none, (hp M J R c e nL xs D)) := (px_run_eq _ _ _).trans rfl
set_option maxRecDepth 40000 in
theorem eX7_gatherNear_29 (X : px_X) (M : Nat → Nat → Int32) (J : Nat → Nat → Int64) (R : Nat → Nat → Option Nat) (c e : Nat) (nL : Nat) (xs : Nat → Int32) (D : px_H) (v1 : Int32) (v2 : Int32) (v3 : Int32) (o4 : Option Value) (o5 : Option Value) : px_run (px_mk (kX7_gatherNear X)) 29 ([some (.ref 14), some (.int (v1)), some (.int (v2)), some (.int (v3)), o4, o5], [], (hp M J R c e nL xs D)) =
    px_run (px_mk (kX7_gatherNear X)) 30 ([some (.ref 14), some (.int (v1)), some (.int (v2)), some (.int (v3)), none, none], [.int (0)], (hp M J R c e nL xs D)) := (px_run_eq _ _ _).trans rfl
set_option maxRecDepth 40000 in
theorem eX7_gatherNear_30 (X : px_X) (M : Nat → Nat → Int32) (J : Nat → Nat → Int64) (R : Nat → Nat → Option Nat) (c e : Nat) (nL : Nat) (xs : Nat → Int32) (D : px_H) (v1 : Int32) (v2 : Int32) (v3 : Int32) (o4 : Option Value) (o5 : Option Value) (w0 : Int32) : px_run (px_mk (kX7_gatherNear X)) 30 ([some (.ref 14), some (.int (v1)), some (.int (v2)), some (.int (v3)), o4, o5], [.int (w0)], (hp M J R c e nL xs D)) =
    px_bd (X 89 [.ref 14, .int (v3), .int (v2)] (hp M J R c e nL xs D))
    (fun v G1 => px_p (kX7_gatherNear X) 30 5 ([some (.ref 14), some (.int (v1)), some (.int (v2)), some (.int (v3)), some (.int (w0)), none], px_psh v [], G1)) := (px_run_eq _ _ _).trans rfl
set_option maxRecDepth 40000 in
theorem eX7_gatherNear_30_5 (X : px_X) (M : Nat → Nat → Int32) (J : Nat → Nat → Int64) (R : Nat → Nat → Option Nat) (c e : Nat) (nL : Nat) (xs : Nat → Int32) (D : px_H) (v1 : Int32) (v2 : Int32) (v3 : Int32) (v4 : Int32) (w0 : Int32) : px_p (kX7_gatherNear X) 30 5 ([some (.ref 14), some (.int (v1)), some (.int (v2)), some (.int (v3)), some (.int (v4)), none], [.int (w0)], (hp M J R c e nL xs D)) =
    cond (decide (¬ w0 = 0))
    (px_run (px_mk (kX7_gatherNear X)) 140 ([some (.ref 14), some (.int (v1)), some (.int (v2)), some (.int (v3)), some (.int (v4)), none], [], (hp M J R c e nL xs D)))
    (cond (decide (¬ v4 = 0))
    (px_run (px_mk (kX7_gatherNear X)) 56 ([some (.ref 14), some (.int (v1)), some (.int (v2)), some (.int (v3)), some (.int (v4)), none], [], (hp M J R c e nL xs D)))
    (cond (px_inb (v3) 24)
    (cond (decide (¬ ((M 19) (Int32.toNatClampNeg (v3))) = v1))
    (px_run (px_mk (kX7_gatherNear X)) 140 ([some (.ref 14), some (.int (v1)), some (.int (v2)), some (.int (v3)), some (.int (v4)), none], [], (hp M J R c e nL xs D)))
    (px_run (px_mk (kX7_gatherNear X)) 56 ([some (.ref 14), some (.int (v1)), some (.int (v2)), some (.int (v3)), some (.int (v4)), none], [], (hp M J R c e nL xs D)))) none)) := rfl
set_option maxRecDepth 40000 in
theorem eX7_gatherNear_140 (X : px_X) (M : Nat → Nat → Int32) (J : Nat → Nat → Int64) (R : Nat → Nat → Option Nat) (c e : Nat) (nL : Nat) (xs : Nat → Int32) (D : px_H) (v1 : Int32) (v2 : Int32) (v3 : Int32) (o4 : Option Value) (o5 : Option Value) : px_run (px_mk (kX7_gatherNear X)) 140 ([some (.ref 14), some (.int (v1)), some (.int (v2)), some (.int (v3)), o4, o5], [], (hp M J R c e nL xs D)) =
    px_run (px_mk (kX7_gatherNear X)) 7 ([some (.ref 14), some (.int (v1)), some (.int (v2)), some (.int ((v3 + 1))), none, none], [], (hp M J R c e nL xs D)) := (px_run_eq _ _ _).trans rfl
set_option maxRecDepth 40000 in
theorem eX7_gatherNear_56 (X : px_X) (M : Nat → Nat → Int32) (J : Nat → Nat → Int64) (R : Nat → Nat → Option Nat) (c e : Nat) (nL : Nat) (xs : Nat → Int32) (D : px_H) (v1 : Int32) (v2 : Int32) (v3 : Int32) (v4 : Int32) (o5 : Option Value) : px_run (px_mk (kX7_gatherNear X)) 56 ([some (.ref 14), some (.int (v1)), some (.int (v2)), some (.int (v3)), some (.int (v4)), o5], [], (hp M J R c e nL xs D)) =
    cond (decide (v4 = 0))
    (px_run (px_mk (kX7_gatherNear X)) 74 ([some (.ref 14), some (.int (v1)), some (.int (v2)), some (.int (v3)), some (.int (v4)), none], [.int ((8 * v2))], (hp M J R c e nL xs D)))
    (cond (px_inb (v3) 24)
    (px_run (px_mk (kX7_gatherNear X)) 80 ([some (.ref 14), some (.int (v1)), some (.int (v2)), some (.int (v3)), some (.int (v4)), none], [.int (((M 19) (Int32.toNatClampNeg (v3)))), .int ((8 * v2))], (hp M J R c e nL xs D))) none) := (px_run_eq _ _ _).trans rfl
set_option maxRecDepth 40000 in
theorem eX7_gatherNear_74 (X : px_X) (M : Nat → Nat → Int32) (J : Nat → Nat → Int64) (R : Nat → Nat → Option Nat) (c e : Nat) (nL : Nat) (xs : Nat → Int32) (D : px_H) (v1 : Int32) (v2 : Int32) (v3 : Int32) (o4 : Option Value) (o5 : Option Value) (w0 : Int32) : px_run (px_mk (kX7_gatherNear X)) 74 ([some (.ref 14), some (.int (v1)), some (.int (v2)), some (.int (v3)), o4, o5], [.int (w0)], (hp M J R c e nL xs D)) =
    cond (px_inb (v3) 24)
    (px_run (px_mk (kX7_gatherNear X)) 80 ([some (.ref 14), some (.int (v1)), some (.int (v2)), some (.int (v3)), none, none], [.int (((M 18) (Int32.toNatClampNeg (v3)))), .int (w0)], (hp M J R c e nL xs D))) none := (px_run_eq _ _ _).trans rfl
set_option maxRecDepth 40000 in
theorem eX7_gatherNear_80 (X : px_X) (M : Nat → Nat → Int32) (J : Nat → Nat → Int64) (R : Nat → Nat → Option Nat) (c e : Nat) (nL : Nat) (xs : Nat → Int32) (D : px_H) (v1 : Int32) (v2 : Int32) (v3 : Int32) (o4 : Option Value) (o5 : Option Value) (w0 : Int32) (w1 : Int32) : px_run (px_mk (kX7_gatherNear X)) 80 ([some (.ref 14), some (.int (v1)), some (.int (v2)), some (.int (v3)), o4, o5], [.int (w1), .int (w0)], (hp M J R c e nL xs D)) =
    cond (px_inb ((w0 + w1)) 200)
    (cond (px_inb (M 14 14) 24)
    (cond (px_inb ((w0 + w1)) 200)
    (cond (px_inb (M 14 14) 24)
    (cond (px_inb (v3) 24)
    (cond (px_inb (M 14 14) 24)
    (px_run (px_mk (kX7_gatherNear X)) 140 ([some (.ref 14), some (.int (v1)), some (.int (v2)), some (.int (v3)), none, some (.int ((w0 + w1)))], [], (hp (px_uR (px_uR (px_uR (px_uR M 25 (upd (M 25) (Int32.toNatClampNeg (M 14 14)) (((M 21) (Int32.toNatClampNeg ((w0 + w1))))))) 26 (upd (M 26) (Int32.toNatClampNeg (M 14 14)) (((M 22) (Int32.toNatClampNeg ((w0 + w1))))))) 27 (upd (M 27) (Int32.toNatClampNeg (M 14 14)) (((M 20) (Int32.toNatClampNeg (v3)))))) 14 (upd (M 14) 14 ((M 14 14 + 1)))) J R c e nL xs D))) none) none) none) none) none) none := (px_run_eq _ _ _).trans rfl
set_option maxRecDepth 40000 in
theorem eX7_moveMark_0 (X : px_X) (M : Nat → Nat → Int32) (J : Nat → Nat → Int64) (R : Nat → Nat → Option Nat) (c e : Nat) (nL : Nat) (xs : Nat → Int32) (D : px_H) (v1 : Int32) (v2 : Int32) (v3 : Int32) : px_run (px_mk (kX7_moveMark X)) 0 ([some (.ref 14), some (.int (v1)), some (.int (v2)), some (.int (v3)), none, none, none, none, none, none, none, none, none, none, none, none, none], [], (hp M J R c e nL xs D)) =
    px_bd (X 94 [.ref 14, .int (v1), .int (v2)] (hp M J R c e nL xs D))
    (fun v G1 => px_p (kX7_moveMark X) 0 4 ([some (.ref 14), some (.int (v1)), some (.int (v2)), some (.int (v3)), none, none, none, none, none, none, none, none, none, none, none, none, none], px_psh v [], G1)) := (px_run_eq _ _ _).trans rfl
set_option maxRecDepth 40000 in
theorem eX7_moveMark_0_4 (X : px_X) (M : Nat → Nat → Int32) (J : Nat → Nat → Int64) (R : Nat → Nat → Option Nat) (c e : Nat) (nL : Nat) (xs : Nat → Int32) (D : px_H) (v1 : Int32) (v2 : Int32) (v3 : Int32) : px_p (kX7_moveMark X) 0 4 ([some (.ref 14), some (.int (v1)), some (.int (v2)), some (.int (v3)), none, none, none, none, none, none, none, none, none, none, none, none, none], [], (hp M J R c e nL xs D)) =
    cond (px_inb (((8 * v2) + v1)) 200)
    (cond (px_inb (((8 * v2) + v1)) 200)
    (px_bd (X 96 [.ref 14, .int (((M 21) (Int32.toNatClampNeg (((8 * v2) + v1))))), .int (((M 22) (Int32.toNatClampNeg (((8 * v2) + v1))))), .long (4611686018427387904)] (hp M J R c e nL xs D))
    (fun v G1 => px_p (kX7_moveMark X) 0 29 ([some (.ref 14), some (.int (v1)), some (.int (v2)), some (.int (v3)), some (.int (((8 * v2) + v1))), some (.int (((M 21) (Int32.toNatClampNeg (((8 * v2) + v1)))))), some (.int (((M 22) (Int32.toNatClampNeg (((8 * v2) + v1)))))), some (.int (((M 21) (Int32.toNatClampNeg (((8 * v2) + v1)))))), some (.int (((M 22) (Int32.toNatClampNeg (((8 * v2) + v1)))))), none, none, none, none, none, none, none, none], px_psh v [], G1))) none) none := rfl
set_option maxRecDepth 40000 in
theorem eX7_moveMark_0_29 (X : px_X) (M : Nat → Nat → Int32) (J : Nat → Nat → Int64) (R : Nat → Nat → Option Nat) (c e : Nat) (nL : Nat) (xs : Nat → Int32) (D : px_H) (v1 : Int32) (v2 : Int32) (v3 : Int32) (v4 : Int32) (v5 : Int32) (v6 : Int32) (v7 : Int32) (v8 : Int32) (w0 : Int64) : px_p (kX7_moveMark X) 0 29 ([some (.ref 14), some (.int (v1)), some (.int (v2)), some (.int (v3)), some (.int (v4)), some (.int (v5)), some (.int (v6)), some (.int (v7)), some (.int (v8)), none, none, none, none, none, none, none, none], [.long (w0)], (hp M J R c e nL xs D)) =
    px_run (px_mk (kX7_moveMark X)) 56 ([some (.ref 14), some (.int (v1)), some (.int (v2)), some (.int (v3)), some (.int (v4)), some (.int (v5)), some (.int (v6)), some (.int (v7)), some (.int (v8)), some (.long (w0)), none, some (.int ((-1))), none, none, none, none, none], [], (hp M J R c e nL xs D)) := rfl
set_option maxRecDepth 40000 in
theorem eX7_moveMark_56 (X : px_X) (M : Nat → Nat → Int32) (J : Nat → Nat → Int64) (R : Nat → Nat → Option Nat) (c e : Nat) (nL : Nat) (xs : Nat → Int32) (D : px_H) (o1 : Option Value) (o2 : Option Value) (v3 : Int32) (v4 : Int32) (v5 : Int32) (v6 : Int32) (v7 : Int32) (v8 : Int32) (v9 : Int64) (v11 : Int32) (o12 : Option Value) (o13 : Option Value) (o14 : Option Value) (o15 : Option Value) (o16 : Option Value) : px_run (px_mk (kX7_moveMark X)) 56 ([some (.ref 14), o1, o2, some (.int (v3)), some (.int (v4)), some (.int (v5)), some (.int (v6)), some (.int (v7)), some (.int (v8)), some (.long (v9)), none, some (.int (v11)), o12, o13, o14, o15, o16], [], (hp M J R c e nL xs D)) =
    cond (decide (1 < v11))
    (px_run (px_mk (kX7_moveMark X)) 133 ([some (.ref 14), none, none, some (.int (v3)), some (.int (v4)), some (.int (v5)), some (.int (v6)), some (.int (v7)), some (.int (v8)), some (.long (v9)), none, some (.int (v11)), none, none, none, none, none], [], (hp M J R c e nL xs D)))
    (px_run (px_mk (kX7_moveMark X)) 65 ([some (.ref 14), none, none, some (.int (v3)), some (.int (v4)), some (.int (v5)), some (.int (v6)), some (.int (v7)), some (.int (v8)), some (.long (v9)), none, some (.int (v11)), some (.int ((-1))), none, none, none, none], [], (hp M J R c e nL xs D))) := (px_run_eq _ _ _).trans rfl
set_option maxRecDepth 40000 in
theorem eX7_moveMark_133 (X : px_X) (M : Nat → Nat → Int32) (J : Nat → Nat → Int64) (R : Nat → Nat → Option Nat) (c e : Nat) (nL : Nat) (xs : Nat → Int32) (D : px_H) (o1 : Option Value) (o2 : Option Value) (o3 : Option Value) (v4 : Int32) (v5 : Int32) (v6 : Int32) (v7 : Int32) (v8 : Int32) (o9 : Option Value) (o10 : Option Value) (o11 : Option Value) (o12 : Option Value) (o13 : Option Value) (o14 : Option Value) (o15 : Option Value) (o16 : Option Value) : px_run (px_mk (kX7_moveMark X)) 133 ([some (.ref 14), o1, o2, o3, some (.int (v4)), some (.int (v5)), some (.int (v6)), some (.int (v7)), some (.int (v8)), o9, o10, o11, o12, o13, o14, o15, o16], [], (hp M J R c e nL xs D)) =
    cond (px_inb (v4) 200)
    (cond (px_inb (v4) 200)
    (cond (decide (¬ v7 = v5))
    (px_run (px_mk (kX7_moveMark X)) 165 ([some (.ref 14), none, none, none, some (.int (v4)), some (.int (v5)), some (.int (v6)), some (.int (v7)), some (.int (v8)), none, none, none, none, none, none, none, none], [], (hp (px_uR (px_uR M 21 (upd (M 21) (Int32.toNatClampNeg (v4)) (v7))) 22 (upd (M 22) (Int32.toNatClampNeg (v4)) (v8))) J R c e nL xs D)))
    (cond (decide (v8 = v6))
    (px_run (px_mk (kX7_moveMark X)) 169 ([some (.ref 14), none, none, none, some (.int (v4)), some (.int (v5)), some (.int (v6)), some (.int (v7)), some (.int (v8)), none, none, none, none, none, none, none, none], [], (hp (px_uR (px_uR M 21 (upd (M 21) (Int32.toNatClampNeg (v4)) (v7))) 22 (upd (M 22) (Int32.toNatClampNeg (v4)) (v8))) J R c e nL xs D)))
    (px_run (px_mk (kX7_moveMark X)) 165 ([some (.ref 14), none, none, none, some (.int (v4)), some (.int (v5)), some (.int (v6)), some (.int (v7)), some (.int (v8)), none, none, none, none, none, none, none, none], [], (hp (px_uR (px_uR M 21 (upd (M 21) (Int32.toNatClampNeg (v4)) (v7))) 22 (upd (M 22) (Int32.toNatClampNeg (v4)) (v8))) J R c e nL xs D))))) none) none := (px_run_eq _ _ _).trans rfl
set_option maxRecDepth 40000 in
theorem eX7_moveMark_65 (X : px_X) (M : Nat → Nat → Int32) (J : Nat → Nat → Int64) (R : Nat → Nat → Option Nat) (c e : Nat) (nL : Nat) (xs : Nat → Int32) (D : px_H) (o1 : Option Value) (o2 : Option Value) (v3 : Int32) (v4 : Int32) (v5 : Int32) (v6 : Int32) (v7 : Int32) (v8 : Int32) (v9 : Int64) (v11 : Int32) (v12 : Int32) (o13 : Option Value) (o14 : Option Value) (o15 : Option Value) (o16 : Option Value) : px_run (px_mk (kX7_moveMark X)) 65 ([some (.ref 14), o1, o2, some (.int (v3)), some (.int (v4)), some (.int (v5)), some (.int (v6)), some (.int (v7)), some (.int (v8)), some (.long (v9)), none, some (.int (v11)), some (.int (v12)), o13, o14, o15, o16], [], (hp M J R c e nL xs D)) =
    cond (decide (1 < v12))
    (px_run (px_mk (kX7_moveMark X)) 127 ([some (.ref 14), none, none, some (.int (v3)), some (.int (v4)), some (.int (v5)), some (.int (v6)), some (.int (v7)), some (.int (v8)), some (.long (v9)), none, some (.int (v11)), some (.int (v12)), none, none, none, none], [], (hp M J R c e nL xs D)))
    (px_bd (X 96 [.ref 14, .int ((v5 + (v11 * v3))), .int ((v6 + (v12 * v3))), .long (v9)] (hp M J R c e nL xs D))
    (fun v G1 => px_p (kX7_moveMark X) 65 20 ([some (.ref 14), none, none, some (.int (v3)), some (.int (v4)), some (.int (v5)), some (.int (v6)), some (.int (v7)), some (.int (v8)), some (.long (v9)), none, some (.int (v11)), some (.int (v12)), some (.int ((v5 + (v11 * v3)))), some (.int ((v6 + (v12 * v3)))), none, none], px_psh v [], G1))) := (px_run_eq _ _ _).trans rfl
set_option maxRecDepth 40000 in
theorem eX7_moveMark_165 (X : px_X) (M : Nat → Nat → Int32) (J : Nat → Nat → Int64) (R : Nat → Nat → Option Nat) (c e : Nat) (nL : Nat) (xs : Nat → Int32) (D : px_H) (o0 : Option Value) (o1 : Option Value) (o2 : Option Value) (o3 : Option Value) (o4 : Option Value) (o5 : Option Value) (o6 : Option Value) (o7 : Option Value) (o8 : Option Value) (o9 : Option Value) (o10 : Option Value) (o11 : Option Value) (o12 : Option Value) (o13 : Option Value) (o14 : Option Value) (o15 : Option Value) (o16 : Option Value) : px_run (px_mk (kX7_moveMark X)) 165 ([o0, o1, o2, o3, o4, o5, o6, o7, o8, o9, o10, o11, o12, o13, o14, o15, o16], [], (hp M J R c e nL xs D)) =
    px_run (px_mk (kX7_moveMark X)) 170 ([none, none, none, none, none, none, none, none, none, none, none, none, none, none, none, none, none], [.int (1)], (hp M J R c e nL xs D)) := (px_run_eq _ _ _).trans rfl
set_option maxRecDepth 40000 in
theorem eX7_moveMark_169 (X : px_X) (M : Nat → Nat → Int32) (J : Nat → Nat → Int64) (R : Nat → Nat → Option Nat) (c e : Nat) (nL : Nat) (xs : Nat → Int32) (D : px_H) (o0 : Option Value) (o1 : Option Value) (o2 : Option Value) (o3 : Option Value) (o4 : Option Value) (o5 : Option Value) (o6 : Option Value) (o7 : Option Value) (o8 : Option Value) (o9 : Option Value) (o10 : Option Value) (o11 : Option Value) (o12 : Option Value) (o13 : Option Value) (o14 : Option Value) (o15 : Option Value) (o16 : Option Value) : px_run (px_mk (kX7_moveMark X)) 169 ([o0, o1, o2, o3, o4, o5, o6, o7, o8, o9, o10, o11, o12, o13, o14, o15, o16], [], (hp M J R c e nL xs D)) =
    px_run (px_mk (kX7_moveMark X)) 170 ([none, none, none, none, none, none, none, none, none, none, none, none, none, none, none, none, none], [.int (0)], (hp M J R c e nL xs D)) := (px_run_eq _ _ _).trans rfl
set_option maxRecDepth 40000 in
theorem eX7_moveMark_127 (X : px_X) (M : Nat → Nat → Int32) (J : Nat → Nat → Int64) (R : Nat → Nat → Option Nat) (c e : Nat) (nL : Nat) (xs : Nat → Int32) (D : px_H) (o1 : Option Value) (o2 : Option Value) (v3 : Int32) (v4 : Int32) (v5 : Int32) (v6 : Int32) (v7 : Int32) (v8 : Int32) (v9 : Int64) (v11 : Int32) (o12 : Option Value) (o13 : Option Value) (o14 : Option Value) (o15 : Option Value) (o16 : Option Value) : px_run (px_mk (kX7_moveMark X)) 127 ([some (.ref 14), o1, o2, some (.int (v3)), some (.int (v4)), some (.int (v5)), some (.int (v6)), some (.int (v7)), some (.int (v8)), some (.long (v9)), none, some (.int (v11)), o12, o13, o14, o15, o16], [], (hp M J R c e nL xs D)) =
    px_run (px_mk (kX7_moveMark X)) 56 ([some (.ref 14), none, none, some (.int (v3)), some (.int (v4)), some (.int (v5)), some (.int (v6)), some (.int (v7)), some (.int (v8)), some (.long (v9)), none, some (.int ((v11 + 1))), none, none, none, none, none], [], (hp M J R c e nL xs D)) := (px_run_eq _ _ _).trans rfl
set_option maxRecDepth 40000 in
theorem eX7_moveMark_65_20 (X : px_X) (M : Nat → Nat → Int32) (J : Nat → Nat → Int64) (R : Nat → Nat → Option Nat) (c e : Nat) (nL : Nat) (xs : Nat → Int32) (D : px_H) (v3 : Int32) (v4 : Int32) (v5 : Int32) (v6 : Int32) (v7 : Int32) (v8 : Int32) (v9 : Int64) (v11 : Int32) (v12 : Int32) (v13 : Int32) (v14 : Int32) (w0 : Int64) : px_p (kX7_moveMark X) 65 20 ([some (.ref 14), none, none, some (.int (v3)), some (.int (v4)), some (.int (v5)), some (.int (v6)), some (.int (v7)), some (.int (v8)), some (.long (v9)), none, some (.int (v11)), some (.int (v12)), some (.int (v13)), some (.int (v14)), none, none], [.long (w0)], (hp M J R c e nL xs D)) =
    cond (decide (0 ≤ (lg_cmp w0 v9)))
    (px_run (px_mk (kX7_moveMark X)) 121 ([some (.ref 14), none, none, some (.int (v3)), some (.int (v4)), some (.int (v5)), some (.int (v6)), some (.int (v7)), some (.int (v8)), some (.long (v9)), none, some (.int (v11)), some (.int (v12)), some (.int (v13)), some (.int (v14)), some (.long (w0)), none], [], (hp M J R c e nL xs D)))
    (px_run (px_mk (kX7_moveMark X)) 121 ([some (.ref 14), none, none, some (.int (v3)), some (.int (v4)), some (.int (v5)), some (.int (v6)), some (.int (v13)), some (.int (v14)), some (.long (w0)), none, some (.int (v11)), some (.int (v12)), some (.int (v13)), some (.int (v14)), some (.long (w0)), none], [], (hp M J R c e nL xs D))) := rfl
set_option maxRecDepth 40000 in
theorem eX7_moveMark_170 (X : px_X) (M : Nat → Nat → Int32) (J : Nat → Nat → Int64) (R : Nat → Nat → Option Nat) (c e : Nat) (nL : Nat) (xs : Nat → Int32) (D : px_H) (o0 : Option Value) (o1 : Option Value) (o2 : Option Value) (o3 : Option Value) (o4 : Option Value) (o5 : Option Value) (o6 : Option Value) (o7 : Option Value) (o8 : Option Value) (o9 : Option Value) (o10 : Option Value) (o11 : Option Value) (o12 : Option Value) (o13 : Option Value) (o14 : Option Value) (o15 : Option Value) (o16 : Option Value) (w0 : Int32) : px_run (px_mk (kX7_moveMark X)) 170 ([o0, o1, o2, o3, o4, o5, o6, o7, o8, o9, o10, o11, o12, o13, o14, o15, o16], [.int (w0)], (hp M J R c e nL xs D)) =
    cond (decide (w0 = 0) || decide (w0 = 1)) (some (some (.int (w0)), (hp M J R c e nL xs D))) none := (px_run_eq _ _ _).trans rfl
set_option maxRecDepth 40000 in
theorem eX7_moveMark_121 (X : px_X) (M : Nat → Nat → Int32) (J : Nat → Nat → Int64) (R : Nat → Nat → Option Nat) (c e : Nat) (nL : Nat) (xs : Nat → Int32) (D : px_H) (o1 : Option Value) (o2 : Option Value) (v3 : Int32) (v4 : Int32) (v5 : Int32) (v6 : Int32) (v7 : Int32) (v8 : Int32) (v9 : Int64) (v11 : Int32) (v12 : Int32) (o13 : Option Value) (o14 : Option Value) (o15 : Option Value) (o16 : Option Value) : px_run (px_mk (kX7_moveMark X)) 121 ([some (.ref 14), o1, o2, some (.int (v3)), some (.int (v4)), some (.int (v5)), some (.int (v6)), some (.int (v7)), some (.int (v8)), some (.long (v9)), none, some (.int (v11)), some (.int (v12)), o13, o14, o15, o16], [], (hp M J R c e nL xs D)) =
    px_run (px_mk (kX7_moveMark X)) 65 ([some (.ref 14), none, none, some (.int (v3)), some (.int (v4)), some (.int (v5)), some (.int (v6)), some (.int (v7)), some (.int (v8)), some (.long (v9)), none, some (.int (v11)), some (.int ((v12 + 1))), none, none, none, none], [], (hp M J R c e nL xs D)) := (px_run_eq _ _ _).trans rfl
set_option maxRecDepth 40000 in
theorem eX7_nearSquares_0 (X : px_X) (M : Nat → Nat → Int32) (J : Nat → Nat → Int64) (R : Nat → Nat → Option Nat) (c e : Nat) (nL : Nat) (xs : Nat → Int32) (D : px_H) (v1 : Int32) (v2 : Int32) (v3 : Int64) : px_run (px_mk (kX7_nearSquares X)) 0 ([some (.ref 14), some (.int (v1)), some (.int (v2)), some (.long (v3)), none, none, none, none, none, none], [], (hp M J R c e nL xs D)) =
    px_run (px_mk (kX7_nearSquares X)) 6 ([some (.ref 14), some (.int (v1)), some (.int (v2)), some (.long (v3)), none, some (.long (0)), none, some (.int (0)), none, none], [], (hp M J R c e nL xs D)) := (px_run_eq _ _ _).trans rfl
set_option maxRecDepth 40000 in
theorem eX7_nearSquares_6 (X : px_X) (M : Nat → Nat → Int32) (J : Nat → Nat → Int64) (R : Nat → Nat → Option Nat) (c e : Nat) (nL : Nat) (xs : Nat → Int32) (D : px_H) (v1 : Int32) (v2 : Int32) (v3 : Int64) (v5 : Int64) (v7 : Int32) (o8 : Option Value) (o9 : Option Value) : px_run (px_mk (kX7_nearSquares X)) 6 ([some (.ref 14), some (.int (v1)), some (.int (v2)), some (.long (v3)), none, some (.long (v5)), none, some (.int (v7)), o8, o9], [], (hp M J R c e nL xs D)) =
    cond (decide (M 14 14 ≤ v7))
    (px_run (px_mk (kX7_nearSquares X)) 77 ([some (.ref 14), some (.int (v1)), some (.int (v2)), some (.long (v3)), none, some (.long (v5)), none, some (.int (v7)), none, none], [], (hp M J R c e nL xs D)))
    (cond (decide (0 ≤ (lg_cmp v5 v3)))
    (px_run (px_mk (kX7_nearSquares X)) 77 ([some (.ref 14), some (.int (v1)), some (.int (v2)), some (.long (v3)), none, some (.long (v5)), none, some (.int (v7)), none, none], [], (hp M J R c e nL xs D)))
    (cond (px_inb (v7) 24)
    (cond (px_inb (v7) 24)
    (cond (px_inb (v7) 24)
    (px_bd (X 91 [.int ((v1 - ((M 25) (Int32.toNatClampNeg (v7))))), .int ((v2 - ((M 26) (Int32.toNatClampNeg (v7))))), .int (((M 27) (Int32.toNatClampNeg (v7))))] (hp M J R c e nL xs D))
    (fun v G1 => px_p (kX7_nearSquares X) 6 25 ([some (.ref 14), some (.int (v1)), some (.int (v2)), some (.long (v3)), none, some (.long (v5)), none, some (.int (v7)), none, none], px_psh v [], G1))) none) none) none)) := (px_run_eq _ _ _).trans rfl
set_option maxRecDepth 40000 in
theorem eX7_nearSquares_77 (X : px_X) (M : Nat → Nat → Int32) (J : Nat → Nat → Int64) (R : Nat → Nat → Option Nat) (c e : Nat) (nL : Nat) (xs : Nat → Int32) (D : px_H) (o0 : Option Value) (o1 : Option Value) (o2 : Option Value) (o3 : Option Value) (o4 : Option Value) (v5 : Int64) (o7 : Option Value) (o8 : Option Value) (o9 : Option Value) : px_run (px_mk (kX7_nearSquares X)) 77 ([o0, o1, o2, o3, o4, some (.long (v5)), none, o7, o8, o9], [], (hp M J R c e nL xs D)) =
    some (some (.long (v5)), (hp M J R c e nL xs D)) := (px_run_eq _ _ _).trans rfl
set_option maxRecDepth 40000 in
theorem eX7_nearSquares_6_25 (X : px_X) (M : Nat → Nat → Int32) (J : Nat → Nat → Int64) (R : Nat → Nat → Option Nat) (c e : Nat) (nL : Nat) (xs : Nat → Int32) (D : px_H) (v1 : Int32) (v2 : Int32) (v3 : Int64) (v5 : Int64) (v7 : Int32) (w0 : Int32) : px_p (kX7_nearSquares X) 6 25 ([some (.ref 14), some (.int (v1)), some (.int (v2)), some (.long (v3)), none, some (.long (v5)), none, some (.int (v7)), none, none], [.int (w0)], (hp M J R c e nL xs D)) =
    cond (px_inb (v7) 24)
    (px_run (px_mk (kX7_nearSquares X)) 6 ([some (.ref 14), some (.int (v1)), some (.int (v2)), some (.long (v3)), none, some (.long ((v5 + ((Int32.toInt64 (w0 - ((M 27) (Int32.toNatClampNeg (v7))))) * (Int32.toInt64 (w0 - ((M 27) (Int32.toNatClampNeg (v7))))))))), none, some (.int ((v7 + 1))), some (.long ((Int32.toInt64 (w0 - ((M 27) (Int32.toNatClampNeg (v7))))))), none], [], (hp M J R c e nL xs D))) none := rfl
set_option maxRecDepth 40000 in
theorem eX7_judge_0 (X : px_X) (M : Nat → Nat → Int32) (J : Nat → Nat → Int64) (R : Nat → Nat → Option Nat) (c e : Nat) (nL : Nat) (xs : Nat → Int32) (D : px_H) (v1 : Int32) : px_run (px_mk (kX7_judge X)) 0 ([some (.ref 14), some (.int (v1)), none, none, none, none], [], (hp M J R c e nL xs D)) =
    px_run (px_mk (kX7_judge X)) 7 ([some (.ref 14), some (.int (v1)), some (.int ((-1))), some (.int ((-1))), some (.int (0)), none], [], (hp M J R c e nL xs D)) := (px_run_eq _ _ _).trans rfl
set_option maxRecDepth 40000 in
theorem eX7_judge_7 (X : px_X) (M : Nat → Nat → Int32) (J : Nat → Nat → Int64) (R : Nat → Nat → Option Nat) (c e : Nat) (nL : Nat) (xs : Nat → Int32) (D : px_H) (v1 : Int32) (v2 : Int32) (v3 : Int32) (v4 : Int32) (o5 : Option Value) : px_run (px_mk (kX7_judge X)) 7 ([some (.ref 14), some (.int (v1)), some (.int (v2)), some (.int (v3)), some (.int (v4)), o5], [], (hp M J R c e nL xs D)) =
    cond (decide (M 14 1 ≤ v4))
    (px_run (px_mk (kX7_judge X)) 56 ([some (.ref 14), some (.int (v1)), some (.int (v2)), some (.int (v3)), some (.int (v4)), none], [], (hp M J R c e nL xs D)))
    (px_bd (X 89 [.ref 14, .int (v4), .int (v1)] (hp M J R c e nL xs D))
    (fun v G1 => px_p (kX7_judge X) 7 8 ([some (.ref 14), some (.int (v1)), some (.int (v2)), some (.int (v3)), some (.int (v4)), none], px_psh v [], G1))) := (px_run_eq _ _ _).trans rfl
set_option maxRecDepth 40000 in
theorem eX7_judge_56 (X : px_X) (M : Nat → Nat → Int32) (J : Nat → Nat → Int64) (R : Nat → Nat → Option Nat) (c e : Nat) (nL : Nat) (xs : Nat → Int32) (D : px_H) (v1 : Int32) (v2 : Int32) (v3 : Int32) (o4 : Option Value) (o5 : Option Value) : px_run (px_mk (kX7_judge X)) 56 ([some (.ref 14), some (.int (v1)), some (.int (v2)), some (.int (v3)), o4, o5], [], (hp M J R c e nL xs D)) =
    cond (px_inb (v1) 25)
    (cond (decide (v2 < 0))
    (px_run (px_mk (kX7_judge X)) 76 ([some (.ref 14), some (.int (v1)), some (.int (v2)), some (.int (v3)), none, none], [], (hp (px_uR M 23 (upd (M 23) (Int32.toNatClampNeg (v1)) (v3))) J R c e nL xs D)))
    (cond (px_inb (v2) 24)
    (px_run (px_mk (kX7_judge X)) 76 ([some (.ref 14), some (.int (v1)), some (.int (v2)), some (.int (v3)), none, none], [], (hp (px_uR (px_uR M 23 (upd (M 23) (Int32.toNatClampNeg (v1)) (v3))) 24 (upd (M 24) (Int32.toNatClampNeg (v2)) ((v1 + 1)))) J R c e nL xs D))) none)) none := (px_run_eq _ _ _).trans rfl
set_option maxRecDepth 40000 in
theorem eX7_judge_7_8 (X : px_X) (M : Nat → Nat → Int32) (J : Nat → Nat → Int64) (R : Nat → Nat → Option Nat) (c e : Nat) (nL : Nat) (xs : Nat → Int32) (D : px_H) (v1 : Int32) (v2 : Int32) (v3 : Int32) (v4 : Int32) (w0 : Int32) : px_p (kX7_judge X) 7 8 ([some (.ref 14), some (.int (v1)), some (.int (v2)), some (.int (v3)), some (.int (v4)), none], [.int (w0)], (hp M J R c e nL xs D)) =
    cond (decide (¬ w0 = 0))
    (px_run (px_mk (kX7_judge X)) 50 ([some (.ref 14), some (.int (v1)), some (.int (v2)), some (.int (v3)), some (.int (v4)), none], [], (hp M J R c e nL xs D)))
    (px_bd (X 90 [.ref 14, .int (v4), .int (v1)] (hp M J R c e nL xs D))
    (fun v G1 => px_p (kX7_judge X) 7 13 ([some (.ref 14), some (.int (v1)), some (.int (v2)), some (.int (v3)), some (.int (v4)), none], px_psh v [], G1))) := rfl
set_option maxRecDepth 40000 in
theorem eX7_judge_76 (X : px_X) (M : Nat → Nat → Int32) (J : Nat → Nat → Int64) (R : Nat → Nat → Option Nat) (c e : Nat) (nL : Nat) (xs : Nat → Int32) (D : px_H) (o0 : Option Value) (o1 : Option Value) (o2 : Option Value) (o3 : Option Value) (o4 : Option Value) (o5 : Option Value) : px_run (px_mk (kX7_judge X)) 76 ([o0, o1, o2, o3, o4, o5], [], (hp M J R c e nL xs D)) =
    some (none, (hp M J R c e nL xs D)) := (px_run_eq _ _ _).trans rfl
set_option maxRecDepth 40000 in
theorem eX7_judge_50 (X : px_X) (M : Nat → Nat → Int32) (J : Nat → Nat → Int64) (R : Nat → Nat → Option Nat) (c e : Nat) (nL : Nat) (xs : Nat → Int32) (D : px_H) (v1 : Int32) (v2 : Int32) (v3 : Int32) (v4 : Int32) (o5 : Option Value) : px_run (px_mk (kX7_judge X)) 50 ([some (.ref 14), some (.int (v1)), some (.int (v2)), some (.int (v3)), some (.int (v4)), o5], [], (hp M J R c e nL xs D)) =
    px_run (px_mk (kX7_judge X)) 7 ([some (.ref 14), some (.int (v1)), some (.int (v2)), some (.int (v3)), some (.int ((v4 + 1))), none], [], (hp M J R c e nL xs D)) := (px_run_eq _ _ _).trans rfl
set_option maxRecDepth 40000 in
theorem eX7_judge_7_13 (X : px_X) (M : Nat → Nat → Int32) (J : Nat → Nat → Int64) (R : Nat → Nat → Option Nat) (c e : Nat) (nL : Nat) (xs : Nat → Int32) (D : px_H) (v1 : Int32) (v2 : Int32) (v3 : Int32) (v4 : Int32) (w0 : Int32) : px_p (kX7_judge X) 7 13 ([some (.ref 14), some (.int (v1)), some (.int (v2)), some (.int (v3)), some (.int (v4)), none], [.int (w0)], (hp M J R c e nL xs D)) =
    cond (decide ((if 0 ≤ w0 then w0 else 0 - w0) ≤ v3))
    (px_run (px_mk (kX7_judge X)) 50 ([some (.ref 14), some (.int (v1)), some (.int (v2)), some (.int (v3)), some (.int (v4)), some (.int ((if 0 ≤ w0 then w0 else 0 - w0)))], [], (hp M J R c e nL xs D)))
    (px_run (px_mk (kX7_judge X)) 50 ([some (.ref 14), some (.int (v1)), some (.int (v4)), some (.int ((if 0 ≤ w0 then w0 else 0 - w0))), some (.int (v4)), some (.int ((if 0 ≤ w0 then w0 else 0 - w0)))], [], (hp M J R c e nL xs D))) := rfl
