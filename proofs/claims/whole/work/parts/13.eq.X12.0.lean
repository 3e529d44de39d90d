/-! block equations over the fixed layout (written by wip/whole/seg.py) -/
set_option maxRecDepth 40000 in
theorem eX12_in_0 (X : px_X) (M : Nat → Nat → Int32) (J : Nat → Nat → Int64) (R : Nat → Nat → Option Nat) (c e : Nat) (nL : Nat) (xs : Nat → Int32) (D : px_H) (v0 : Int32) (v1 : Int32) (v2 : Int32) : px_run (px_mk (kX12_in X)) 0 ([some (.int (v0)), some (.int (v1)), some (.int (v2))], [], (hp M J R c e nL xs D)) =
    cond (decide (v0 < v1))
    (px_run (px_mk (kX12_in X)) 14 ([some (.int (v0)), some (.int (v1)), some (.int (v2))], [], (hp M J R c e nL xs D)))
    (cond (decide (v2 < v0))
    (px_run (px_mk (kX12_in X)) 14 ([some (.int (v0)), some (.int (v1)), some (.int (v2))], [], (hp M J R c e nL xs D)))
    (px_run (px_mk (kX12_in X)) 15 ([some (.int (v0)), some (.int (v1)), some (.int (v2))], [.int (1)], (hp M J R c e nL xs D)))) := (px_run_eq _ _ _).trans rfl
set_option maxRecDepth 40000 in
theorem eX12_in_14 (X : px_X) (M : Nat → Nat → Int32) (J : Nat → Nat → Int64) (R : Nat → Nat → Option Nat) (c e : Nat) (nL : Nat) (xs : Nat → Int32) (D : px_H) (o0 : Option Value) (o1 : Option Value) (o2 : Option Value) : px_run (px_mk (kX12_in X)) 14 ([o0, o1, o2], [], (hp M J R c e nL xs D)) =
    px_run (px_mk (kX12_in X)) 15 ([none, none, none], [.int (0)], (hp M J R c e nL xs D)) := (px_run_eq _ _ _).trans rfl
set_option maxRecDepth 40000 in
theorem eX12_in_15 (X : px_X) (M : Nat → Nat → Int32) (J : Nat → Nat → Int64) (R : Nat → Nat → Option Nat) (c e : Nat) (nL : Nat) (xs : Nat → Int32) (D : px_H) (o0 : Option Value) (o1 : Option Value) (o2 : Option Value) (w0 : Int32) : px_run (px_mk (kX12_in X)) 15 ([o0, o1, o2], [.int (w0)], (hp M J R c e nL xs D)) =
    cond (decide (w0 = 0) || decide (w0 = 1)) (some (some (.int (w0)), (hp M J R c e nL xs D))) none := (px_run_eq _ _ _).trans rfl
set_option maxRecDepth 40000 in
theorem eX12_isMark_0 (X : px_X) (M : Nat → Nat → Int32) (J : Nat → Nat → Int64) (R : Nat → Nat → Option Nat) (c e : Nat) (nL : Nat) (xs : Nat → Int32) (D : px_H) (v1 : Int32) : px_run (px_mk (kX12_isMark X)) 0 ([some (.ref 67), some (.int (v1))], [], (hp M J R c e nL xs D)) =
    px_bd (X 165 [.int (v1), .int (0), .int ((M 67 0 - 1))] (hp M J R c e nL xs D))
    (fun v G1 => px_p (kX12_isMark X) 0 7 ([some (.ref 67), some (.int (v1))], px_psh v [], G1)) := (px_run_eq _ _ _).trans rfl
set_option maxRecDepth 40000 in
theorem eX12_isMark_0_7 (X : px_X) (M : Nat → Nat → Int32) (J : Nat → Nat → Int64) (R : Nat → Nat → Option Nat) (c e : Nat) (nL : Nat) (xs : Nat → Int32) (D : px_H) (v1 : Int32) (w0 : Int32) : px_p (kX12_isMark X) 0 7 ([some (.ref 67), some (.int (v1))], [.int (w0)], (hp M J R c e nL xs D)) =
    cond (decide (w0 = 0) || decide (w0 = 1)) (some (some (.int (w0)), (hp M J R c e nL xs D))) none := rfl
set_option maxRecDepth 40000 in
theorem eX12_isFind_0 (X : px_X) (M : Nat → Nat → Int32) (J : Nat → Nat → Int64) (R : Nat → Nat → Option Nat) (c e : Nat) (nL : Nat) (xs : Nat → Int32) (D : px_H) (v1 : Int32) : px_run (px_mk (kX12_isFind X)) 0 ([some (.ref 67), some (.int (v1))], [], (hp M J R c e nL xs D)) =
    px_bd (X 165 [.int (v1), .int (0), .int ((M 67 13 - 1))] (hp M J R c e nL xs D))
    (fun v G1 => px_p (kX12_isFind X) 0 7 ([some (.ref 67), some (.int (v1))], px_psh v [], G1)) := (px_run_eq _ _ _).trans rfl
set_option maxRecDepth 40000 in
theorem eX12_isFind_0_7 (X : px_X) (M : Nat → Nat → Int32) (J : Nat → Nat → Int64) (R : Nat → Nat → Option Nat) (c e : Nat) (nL : Nat) (xs : Nat → Int32) (D : px_H) (v1 : Int32) (w0 : Int32) : px_p (kX12_isFind X) 0 7 ([some (.ref 67), some (.int (v1))], [.int (w0)], (hp M J R c e nL xs D)) =
    cond (decide (w0 = 0) || decide (w0 = 1)) (some (some (.int (w0)), (hp M J R c e nL xs D))) none := rfl
set_option maxRecDepth 40000 in
theorem eX12_isDay_0 (X : px_X) (M : Nat → Nat → Int32) (J : Nat → Nat → Int64) (R : Nat → Nat → Option Nat) (c e : Nat) (nL : Nat) (xs : Nat → Int32) (D : px_H) (v0 : Int32) : px_run (px_mk (kX12_isDay X)) 0 ([some (.int (v0))], [], (hp M J R c e nL xs D)) =
    px_bd (X 165 [.int (v0), .int (0), .int (999)] (hp M J R c e nL xs D))
    (fun v G1 => px_p (kX12_isDay X) 0 4 ([some (.int (v0))], px_psh v [], G1)) := (px_run_eq _ _ _).trans rfl
set_option maxRecDepth 40000 in
theorem eX12_isDay_0_4 (X : px_X) (M : Nat → Nat → Int32) (J : Nat → Nat → Int64) (R : Nat → Nat → Option Nat) (c e : Nat) (nL : Nat) (xs : Nat → Int32) (D : px_H) (v0 : Int32) (w0 : Int32) : px_p (kX12_isDay X) 0 4 ([some (.int (v0))], [.int (w0)], (hp M J R c e nL xs D)) =
    cond (decide (w0 = 0) || decide (w0 = 1)) (some (some (.int (w0)), (hp M J R c e nL xs D))) none := rfl
set_option maxRecDepth 40000 in
theorem eX12_mark_0 (X : px_X) (M : Nat → Nat → Int32) (J : Nat → Nat → Int64) (R : Nat → Nat → Option Nat) (c e : Nat) (nL : Nat) (xs : Nat → Int32) (D : px_H) (v1 : Int32) (v2 : Int32) (v3 : Int32) : px_run (px_mk (kX12_mark X)) 0 ([some (.ref 67), some (.int (v1)), some (.int (v2)), some (.int (v3))], [], (hp M J R c e nL xs D)) =
    px_bd (X 165 [.int (v1), .int ((-5000)), .int (5000)] (hp M J R c e nL xs D))
    (fun v G1 => px_p (kX12_mark X) 0 4 ([some (.ref 67), some (.int (v1)), some (.int (v2)), some (.int (v3))], px_psh v [], G1)) := (px_run_eq _ _ _).trans rfl
set_option maxRecDepth 40000 in
theorem eX12_mark_0_4 (X : px_X) (M : Nat → Nat → Int32) (J : Nat → Nat → Int64) (R : Nat → Nat → Option Nat) (c e : Nat) (nL : Nat) (xs : Nat → Int32) (D : px_H) (v1 : Int32) (v2 : Int32) (v3 : Int32) (w0 : Int32) : px_p (kX12_mark X) 0 4 ([some (.ref 67), some (.int (v1)), some (.int (v2)), some (.int (v3))], [.int (w0)], (hp M J R c e nL xs D)) =
    cond (decide (w0 = 0))
    (px_run (px_mk (kX12_mark X)) 26 ([some (.ref 67), some (.int (v1)), some (.int (v2)), some (.int (v3))], [], (hp M J R c e nL xs D)))
    (px_bd (X 165 [.int (v2), .int ((-5000)), .int (5000)] (hp M J R c e nL xs D))
    (fun v G1 => px_p (kX12_mark X) 0 9 ([some (.ref 67), some (.int (v1)), some (.int (v2)), some (.int (v3))], px_psh v [], G1))) := rfl
set_option maxRecDepth 40000 in
theorem eX12_mark_26 (X : px_X) (M : Nat → Nat → Int32) (J : Nat → Nat → Int64) (R : Nat → Nat → Option Nat) (c e : Nat) (nL : Nat) (xs : Nat → Int32) (D : px_H) (o0 : Option Value) (o1 : Option Value) (o2 : Option Value) (o3 : Option Value) : px_run (px_mk (kX12_mark X)) 26 ([o0, o1, o2, o3], [], (hp M J R c e nL xs D)) =
    some (some (.int ((-2))), (hp M J R c e nL xs D)) := (px_run_eq _ _ _).trans rfl
set_option maxRecDepth 40000 in
theorem eX12_mark_0_9 (X : px_X) (M : Nat → Nat → Int32) (J : Nat → Nat → Int64) (R : Nat → Nat → Option Nat) (c e : Nat) (nL : Nat) (xs : Nat → Int32) (D : px_H) (v1 : Int32) (v2 : Int32) (v3 : Int32) (w0 : Int32) : px_p (kX12_mark X) 0 9 ([some (.ref 67), some (.int (v1)), some (.int (v2)), some (.int (v3))], [.int (w0)], (hp M J R c e nL xs D)) =
    cond (decide (¬ w0 = 0))
    (px_run (px_mk (kX12_mark X)) 29 ([some (.ref 67), some (.int (v1)), some (.int (v2)), some (.int (v3))], [], (hp M J R c e nL xs D)))
    (px_run (px_mk (kX12_mark X)) 26 ([some (.ref 67), some (.int (v1)), some (.int (v2)), some (.int (v3))], [], (hp M J R c e nL xs D))) := rfl
set_option maxRecDepth 40000 in
theorem eX12_mark_29 (X : px_X) (M : Nat → Nat → Int32) (J : Nat → Nat → Int64) (R : Nat → Nat → Option Nat) (c e : Nat) (nL : Nat) (xs : Nat → Int32) (D : px_H) (v1 : Int32) (v2 : Int32) (v3 : Int32) : px_run (px_mk (kX12_mark X)) 29 ([some (.ref 67), some (.int (v1)), some (.int (v2)), some (.int (v3))], [], (hp M J R c e nL xs D)) =
    cond (decide (¬ M 67 0 = 8))
    (px_run (px_mk (kX12_mark X)) 41 ([some (.ref 67), some (.int (v1)), some (.int (v2)), some (.int (v3))], [], (hp M J R c e nL xs D)))
    (some (some (.int ((-4))), (hp M J R c e nL xs D))) := (px_run_eq _ _ _).trans rfl
set_option maxRecDepth 40000 in
theorem eX12_mark_41 (X : px_X) (M : Nat → Nat → Int32) (J : Nat → Nat → Int64) (R : Nat → Nat → Option Nat) (c e : Nat) (nL : Nat) (xs : Nat → Int32) (D : px_H) (v1 : Int32) (v2 : Int32) (v3 : Int32) : px_run (px_mk (kX12_mark X)) 41 ([some (.ref 67), some (.int (v1)), some (.int (v2)), some (.int (v3))], [], (hp M J R c e nL xs D)) =
    cond (px_inb (M 67 0) 8)
    (cond (px_inb (M 67 0) 8)
    (cond (px_inb (M 67 0) 8 && (decide (v3 = 0) || decide (v3 = 1)))
    (some (some (.int (((M 67 0 + 1) - 1))), (hp (px_uR (px_uR (px_uR (px_uR M 68 (upd (M 68) (Int32.toNatClampNeg (M 67 0)) (v1))) 69 (upd (M 69) (Int32.toNatClampNeg (M 67 0)) (v2))) 72 (upd (M 72) (Int32.toNatClampNeg (M 67 0)) (v3))) 67 (upd (upd (M 67) 0 ((M 67 0 + 1))) 11 (0))) J R c e nL xs D))) none) none) none := (px_run_eq _ _ _).trans rfl
set_option maxRecDepth 40000 in
theorem eX12_tape_0 (X : px_X) (M : Nat → Nat → Int32) (J : Nat → Nat → Int64) (R : Nat → Nat → Option Nat) (c e : Nat) (nL : Nat) (xs : Nat → Int32) (D : px_H) (v1 : Int32) (v2 : Int32) (v3 : Int32) : px_run (px_mk (kX12_tape X)) 0 ([some (.ref 67), some (.int (v1)), some (.int (v2)), some (.int (v3))], [], (hp M J R c e nL xs D)) =
    px_bd (X 166 [.ref 67, .int (v1)] (hp M J R c e nL xs D))
    (fun v G1 => px_p (kX12_tape X) 0 3 ([some (.ref 67), some (.int (v1)), some (.int (v2)), some (.int (v3))], px_psh v [], G1)) := (px_run_eq _ _ _).trans rfl
set_option maxRecDepth 40000 in
theorem eX12_tape_0_3 (X : px_X) (M : Nat → Nat → Int32) (J : Nat → Nat → Int64) (R : Nat → Nat → Option Nat) (c e : Nat) (nL : Nat) (xs : Nat → Int32) (D : px_H) (v1 : Int32) (v2 : Int32) (v3 : Int32) (w0 : Int32) : px_p (kX12_tape X) 0 3 ([some (.ref 67), some (.int (v1)), some (.int (v2)), some (.int (v3))], [.int (w0)], (hp M J R c e nL xs D)) =
    cond (decide (w0 = 0))
    (px_run (px_mk (kX12_tape X)) 32 ([some (.ref 67), some (.int (v1)), some (.int (v2)), some (.int (v3))], [], (hp M J R c e nL xs D)))
    (px_bd (X 166 [.ref 67, .int (v2)] (hp M J R c e nL xs D))
    (fun v G1 => px_p (kX12_tape X) 0 7 ([some (.ref 67), some (.int (v1)), some (.int (v2)), some (.int (v3))], px_psh v [], G1))) := rfl
set_option maxRecDepth 40000 in
theorem eX12_tape_32 (X : px_X) (M : Nat → Nat → Int32) (J : Nat → Nat → Int64) (R : Nat → Nat → Option Nat) (c e : Nat) (nL : Nat) (xs : Nat → Int32) (D : px_H) (o0 : Option Value) (o1 : Option Value) (o2 : Option Value) (o3 : Option Value) : px_run (px_mk (kX12_tape X)) 32 ([o0, o1, o2, o3], [], (hp M J R c e nL xs D)) =
    some (some (.int ((-2))), (hp M J R c e nL xs D)) := (px_run_eq _ _ _).trans rfl
set_option maxRecDepth 40000 in
theorem eX12_tape_0_7 (X : px_X) (M : Nat → Nat → Int32) (J : Nat → Nat → Int64) (R : Nat → Nat → Option Nat) (c e : Nat) (nL : Nat) (xs : Nat → Int32) (D : px_H) (v1 : Int32) (v2 : Int32) (v3 : Int32) (w0 : Int32) : px_p (kX12_tape X) 0 7 ([some (.ref 67), some (.int (v1)), some (.int (v2)), some (.int (v3))], [.int (w0)], (hp M J R c e nL xs D)) =
    cond (decide (w0 = 0))
    (px_run (px_mk (kX12_tape X)) 32 ([some (.ref 67), some (.int (v1)), some (.int (v2)), some (.int (v3))], [], (hp M J R c e nL xs D)))
    (cond (decide (v1 = v2))
    (px_run (px_mk (kX12_tape X)) 32 ([some (.ref 67), some (.int (v1)), some (.int (v2)), some (.int (v3))], [], (hp M J R c e nL xs D)))
    (px_bd (X 165 [.int (v3), .int (1), .int (15000)] (hp M J R c e nL xs D))
    (fun v G1 => px_p (kX12_tape X) 0 15 ([some (.ref 67), some (.int (v1)), some (.int (v2)), some (.int (v3))], px_psh v [], G1)))) := rfl
set_option maxRecDepth 40000 in
theorem eX12_tape_0_15 (X : px_X) (M : Nat → Nat → Int32) (J : Nat → Nat → Int64) (R : Nat → Nat → Option Nat) (c e : Nat) (nL : Nat) (xs : Nat → Int32) (D : px_H) (v1 : Int32) (v2 : Int32) (v3 : Int32) (w0 : Int32) : px_p (kX12_tape X) 0 15 ([some (.ref 67), some (.int (v1)), some (.int (v2)), some (.int (v3))], [.int (w0)], (hp M J R c e nL xs D)) =
    cond (decide (¬ w0 = 0))
    (px_run (px_mk (kX12_tape X)) 35 ([some (.ref 67), some (.int (v1)), some (.int (v2)), some (.int (v3))], [], (hp M J R c e nL xs D)))
    (px_run (px_mk (kX12_tape X)) 32 ([some (.ref 67), some (.int (v1)), some (.int (v2)), some (.int (v3))], [], (hp M J R c e nL xs D))) := rfl
set_option maxRecDepth 40000 in
theorem eX12_tape_35 (X : px_X) (M : Nat → Nat → Int32) (J : Nat → Nat → Int64) (R : Nat → Nat → Option Nat) (c e : Nat) (nL : Nat) (xs : Nat → Int32) (D : px_H) (v1 : Int32) (v2 : Int32) (v3 : Int32) : px_run (px_mk (kX12_tape X)) 35 ([some (.ref 67), some (.int (v1)), some (.int (v2)), some (.int (v3))], [], (hp M J R c e nL xs D)) =
    cond (decide (¬ M 67 6 = 24))
    (px_run (px_mk (kX12_tape X)) 47 ([some (.ref 67), some (.int (v1)), some (.int (v2)), some (.int (v3))], [], (hp M J R c e nL xs D)))
    (some (some (.int ((-4))), (hp M J R c e nL xs D))) := (px_run_eq _ _ _).trans rfl
set_option maxRecDepth 40000 in
theorem eX12_tape_47 (X : px_X) (M : Nat → Nat → Int32) (J : Nat → Nat → Int64) (R : Nat → Nat → Option Nat) (c e : Nat) (nL : Nat) (xs : Nat → Int32) (D : px_H) (v1 : Int32) (v2 : Int32) (v3 : Int32) : px_run (px_mk (kX12_tape X)) 47 ([some (.ref 67), some (.int (v1)), some (.int (v2)), some (.int (v3))], [], (hp M J R c e nL xs D)) =
    cond (px_inb (M 67 6) 24)
    (cond (px_inb (M 67 6) 24)
    (cond (px_inb (M 67 6) 24)
    (some (some (.int (((M 67 6 + 1) - 1))), (hp (px_uR (px_uR (px_uR (px_uR M 73 (upd (M 73) (Int32.toNatClampNeg (M 67 6)) (v1))) 74 (upd (M 74) (Int32.toNatClampNeg (M 67 6)) (v2))) 75 (upd (M 75) (Int32.toNatClampNeg (M 67 6)) (v3))) 67 (upd (upd (M 67) 6 ((M 67 6 + 1))) 11 (0))) J R c e nL xs D))) none) none) none := (px_run_eq _ _ _).trans rfl
set_option maxRecDepth 40000 in
theorem eX12_tapes_0 (X : px_X) (M : Nat → Nat → Int32) (J : Nat → Nat → Int64) (R : Nat → Nat → Option Nat) (c e : Nat) (nL : Nat) (xs : Nat → Int32) (D : px_H) (v1 : Int32) (v2 : Int32) (v3 : Int32) : px_run (px_mk (kX12_tapes X)) 0 ([some (.ref 67), some (.int (v1)), some (.int (v2)), some (.int (v3)), none, none, none, none, none], [], (hp M J R c e nL xs D)) =
    px_bd (X 251 [.int (v1)] (hp M J R c e nL xs D))
    (fun v G1 => px_p (kX12_tapes X) 0 2 ([some (.ref 67), some (.int (v1)), some (.int (v2)), some (.int (v3)), none, none, none, none, none], px_psh v [], G1)) := (px_run_eq _ _ _).trans rfl
set_option maxRecDepth 40000 in
theorem eX12_tapes_0_2 (X : px_X) (M : Nat → Nat → Int32) (J : Nat → Nat → Int64) (R : Nat → Nat → Option Nat) (c e : Nat) (nL : Nat) (xs : Nat → Int32) (D : px_H) (v1 : Int32) (v2 : Int32) (v3 : Int32) (w0 : Int32) : px_p (kX12_tapes X) 0 2 ([some (.ref 67), some (.int (v1)), some (.int (v2)), some (.int (v3)), none, none, none, none, none], [.int (w0)], (hp M J R c e nL xs D)) =
    cond (decide (w0 = 0))
    (px_run (px_mk (kX12_tapes X)) 11 ([some (.ref 67), some (.int (v1)), some (.int (v2)), some (.int (v3)), none, none, none, none, none], [], (hp M J R c e nL xs D)))
    (cond (decide (0 ≤ v3))
    (px_run (px_mk (kX12_tapes X)) 14 ([some (.ref 67), some (.int (v1)), some (.int (v2)), some (.int (v3)), none, none, none, none, none], [], (hp M J R c e nL xs D)))
    (px_run (px_mk (kX12_tapes X)) 11 ([some (.ref 67), some (.int (v1)), some (.int (v2)), some (.int (v3)), none, none, none, none, none], [], (hp M J R c e nL xs D)))) := rfl
set_option maxRecDepth 40000 in
theorem eX12_tapes_11 (X : px_X) (M : Nat → Nat → Int32) (J : Nat → Nat → Int64) (R : Nat → Nat → Option Nat) (c e : Nat) (nL : Nat) (xs : Nat → Int32) (D : px_H) (o0 : Option Value) (o1 : Option Value) (o2 : Option Value) (o3 : Option Value) (o4 : Option Value) (o5 : Option Value) (o6 : Option Value) (o7 : Option Value) (o8 : Option Value) : px_run (px_mk (kX12_tapes X)) 11 ([o0, o1, o2, o3, o4, o5, o6, o7, o8], [], (hp M J R c e nL xs D)) =
    some (some (.int ((-2))), (hp M J R c e nL xs D)) := (px_run_eq _ _ _).trans rfl
set_option maxRecDepth 40000 in
theorem eX12_tapes_14 (X : px_X) (M : Nat → Nat → Int32) (J : Nat → Nat → Int64) (R : Nat → Nat → Option Nat) (c e : Nat) (nL : Nat) (xs : Nat → Int32) (D : px_H) (v1 : Int32) (v2 : Int32) (v3 : Int32) (o4 : Option Value) (o5 : Option Value) (o6 : Option Value) (o7 : Option Value) (o8 : Option Value) : px_run (px_mk (kX12_tapes X)) 14 ([some (.ref 67), some (.int (v1)), some (.int (v2)), some (.int (v3)), o4, o5, o6, o7, o8], [], (hp M J R c e nL xs D)) =
    cond (px_inb (v1) 4)
    (cond (decide (((M 102) (Int32.toNatClampNeg (v1))) = (-1)))
    (px_run (px_mk (kX12_tapes X)) 37 ([some (.ref 67), some (.int (v1)), some (.int (v2)), some (.int (v3)), none, none, none, none, none], [], (hp M J R c e nL xs D)))
    (cond (px_inb (v1) 4)
    (cond (decide (((M 102) (Int32.toNatClampNeg (v1))) = 2))
    (px_run (px_mk (kX12_tapes X)) 37 ([some (.ref 67), some (.int (v1)), some (.int (v2)), some (.int (v3)), none, none, none, none, none], [], (hp M J R c e nL xs D)))
    (some (some (.int ((-13))), (hp M J R c e nL xs D)))) none)) none := (px_run_eq _ _ _).trans rfl
set_option maxRecDepth 40000 in
theorem eX12_tapes_37 (X : px_X) (M : Nat → Nat → Int32) (J : Nat → Nat → Int64) (R : Nat → Nat → Option Nat) (c e : Nat) (nL : Nat) (xs : Nat → Int32) (D : px_H) (v1 : Int32) (v2 : Int32) (v3 : Int32) (o4 : Option Value) (o5 : Option Value) (o6 : Option Value) (o7 : Option Value) (o8 : Option Value) : px_run (px_mk (kX12_tapes X)) 37 ([some (.ref 67), some (.int (v1)), some (.int (v2)), some (.int (v3)), o4, o5, o6, o7, o8], [], (hp M J R c e nL xs D)) =
    cond (px_inb (v1) 4)
    (cond (decide (¬ ((M 102) (Int32.toNatClampNeg (v1))) = (-1)))
    (px_run (px_mk (kX12_tapes X)) 50 ([some (.ref 67), some (.int (v1)), some (.int (v2)), some (.int (v3)), none, none, none, none, none], [], (hp M J R c e nL xs D)))
    (some (some (.int ((-11))), (hp M J R c e nL xs D)))) none := (px_run_eq _ _ _).trans rfl
set_option maxRecDepth 40000 in
theorem eX12_tapes_50 (X : px_X) (M : Nat → Nat → Int32) (J : Nat → Nat → Int64) (R : Nat → Nat → Option Nat) (c e : Nat) (nL : Nat) (xs : Nat → Int32) (D : px_H) (v1 : Int32) (v2 : Int32) (v3 : Int32) (o4 : Option Value) (o5 : Option Value) (o6 : Option Value) (o7 : Option Value) (o8 : Option Value) : px_run (px_mk (kX12_tapes X)) 50 ([some (.ref 67), some (.int (v1)), some (.int (v2)), some (.int (v3)), o4, o5, o6, o7, o8], [], (hp M J R c e nL xs D)) =
    px_run (px_mk (kX12_tapes X)) 53 ([some (.ref 67), some (.int (v1)), some (.int (v2)), some (.int (v3)), some (.int (0)), none, none, none, none], [], (hp M J R c e nL xs D)) := (px_run_eq _ _ _).trans rfl
set_option maxRecDepth 40000 in
theorem eX12_tapes_53 (X : px_X) (M : Nat → Nat → Int32) (J : Nat → Nat → Int64) (R : Nat → Nat → Option Nat) (c e : Nat) (nL : Nat) (xs : Nat → Int32) (D : px_H) (v1 : Int32) (v2 : Int32) (v3 : Int32) (v4 : Int32) (o5 : Option Value) (o6 : Option Value) (o7 : Option Value) (o8 : Option Value) : px_run (px_mk (kX12_tapes X)) 53 ([some (.ref 67), some (.int (v1)), some (.int (v2)), some (.int (v3)), some (.int (v4)), o5, o6, o7, o8], [], (hp M J R c e nL xs D)) =
    cond (decide (v3 ≤ v4))
    (px_run (px_mk (kX12_tapes X)) 198 ([some (.ref 67), some (.int (v1)), some (.int (v2)), some (.int (v3)), some (.int (v4)), none, none, none, none], [], (hp M J R c e nL xs D)))
    (cond (decide ((v2 + (3 * v4)) < 0))
    (px_run (px_mk (kX12_tapes X)) 85 ([some (.ref 67), some (.int (v1)), some (.int (v2)), some (.int (v3)), some (.int (v4)), some (.int ((v2 + (3 * v4)))), none, none, none], [], (hp M J R c e nL xs D)))
    (cond (px_inb (v1) 4)
    (cond (decide ((v2 + (3 * v4)) ≤ (((M 103) (Int32.toNatClampNeg (v1))) - 3)))
    (px_run (px_mk (kX12_tapes X)) 88 ([some (.ref 67), some (.int (v1)), some (.int (v2)), some (.int (v3)), some (.int (v4)), some (.int ((v2 + (3 * v4)))), none, none, none], [], (hp M J R c e nL xs D)))
    (px_run (px_mk (kX12_tapes X)) 85 ([some (.ref 67), some (.int (v1)), some (.int (v2)), some (.int (v3)), some (.int (v4)), some (.int ((v2 + (3 * v4)))), none, none, none], [], (hp M J R c e nL xs D)))) none)) := (px_run_eq _ _ _).trans rfl
set_option maxRecDepth 40000 in
theorem eX12_tapes_198 (X : px_X) (M : Nat → Nat → Int32) (J : Nat → Nat → Int64) (R : Nat → Nat → Option Nat) (c e : Nat) (nL : Nat) (xs : Nat → Int32) (D : px_H) (o1 : Option Value) (o2 : Option Value) (o3 : Option Value) (o4 : Option Value) (o5 : Option Value) (o6 : Option Value) (o7 : Option Value) (o8 : Option Value) : px_run (px_mk (kX12_tapes X)) 198 ([some (.ref 67), o1, o2, o3, o4, o5, o6, o7, o8], [], (hp M J R c e nL xs D)) =
    some (some (.int (M 67 6)), (hp M J R c e nL xs D)) := (px_run_eq _ _ _).trans rfl
set_option maxRecDepth 40000 in
theorem eX12_tapes_85 (X : px_X) (M : Nat → Nat → Int32) (J : Nat → Nat → Int64) (R : Nat → Nat → Option Nat) (c e : Nat) (nL : Nat) (xs : Nat → Int32) (D : px_H) (o0 : Option Value) (o1 : Option Value) (o2 : Option Value) (o3 : Option Value) (o4 : Option Value) (o5 : Option Value) (o6 : Option Value) (o7 : Option Value) (o8 : Option Value) : px_run (px_mk (kX12_tapes X)) 85 ([o0, o1, o2, o3, o4, o5, o6, o7, o8], [], (hp M J R c e nL xs D)) =
    some (some (.int ((-12))), (hp M J R c e nL xs D)) := (px_run_eq _ _ _).trans rfl
set_option maxRecDepth 40000 in
theorem eX12_tapes_88 (X : px_X) (M : Nat → Nat → Int32) (J : Nat → Nat → Int64) (R : Nat → Nat → Option Nat) (c e : Nat) (nL : Nat) (xs : Nat → Int32) (D : px_H) (v1 : Int32) (v2 : Int32) (v3 : Int32) (v4 : Int32) (v5 : Int32) (o6 : Option Value) (o7 : Option Value) (o8 : Option Value) : px_run (px_mk (kX12_tapes X)) 88 ([some (.ref 67), some (.int (v1)), some (.int (v2)), some (.int (v3)), some (.int (v4)), some (.int (v5)), o6, o7, o8], [], (hp M J R c e nL xs D)) =
    cond (px_inb (((40 * v1) + v5)) 160)
    (cond (decide (¬ ((M 105) (Int32.toNatClampNeg (((40 * v1) + v5)))) = 0))
    (px_run (px_mk (kX12_tapes X)) 131 ([some (.ref 67), some (.int (v1)), some (.int (v2)), some (.int (v3)), some (.int (v4)), some (.int (v5)), some (.int (((40 * v1) + v5))), none, none], [], (hp M J R c e nL xs D)))
    (cond (px_inb ((((40 * v1) + v5) + 1)) 160)
    (cond (decide (¬ ((M 105) (Int32.toNatClampNeg ((((40 * v1) + v5) + 1)))) = 0))
    (px_run (px_mk (kX12_tapes X)) 131 ([some (.ref 67), some (.int (v1)), some (.int (v2)), some (.int (v3)), some (.int (v4)), some (.int (v5)), some (.int (((40 * v1) + v5))), none, none], [], (hp M J R c e nL xs D)))
    (cond (px_inb ((((40 * v1) + v5) + 2)) 160)
    (cond (decide (((M 105) (Int32.toNatClampNeg ((((40 * v1) + v5) + 2)))) = 0))
    (px_run (px_mk (kX12_tapes X)) 135 ([some (.ref 67), some (.int (v1)), some (.int (v2)), some (.int (v3)), some (.int (v4)), some (.int (v5)), some (.int (((40 * v1) + v5))), none, none], [], (hp M J R c e nL xs D)))
    (px_run (px_mk (kX12_tapes X)) 131 ([some (.ref 67), some (.int (v1)), some (.int (v2)), some (.int (v3)), some (.int (v4)), some (.int (v5)), some (.int (((40 * v1) + v5))), none, none], [], (hp M J R c e nL xs D)))) none)) none)) none := (px_run_eq _ _ _).trans rfl
set_option maxRecDepth 40000 in
theorem eX12_tapes_131 (X : px_X) (M : Nat → Nat → Int32) (J : Nat → Nat → Int64) (R : Nat → Nat → Option Nat) (c e : Nat) (nL : Nat) (xs : Nat → Int32) (D : px_H) (v1 : Int32) (v2 : Int32) (v3 : Int32) (v4 : Int32) (o5 : Option Value) (v6 : Int32) (o7 : Option Value) (o8 : Option Value) : px_run (px_mk (kX12_tapes X)) 131 ([some (.ref 67), some (.int (v1)), some (.int (v2)), some (.int (v3)), some (.int (v4)), o5, some (.int (v6)), o7, o8], [], (hp M J R c e nL xs D)) =
    px_run (px_mk (kX12_tapes X)) 136 ([some (.ref 67), some (.int (v1)), some (.int (v2)), some (.int (v3)), some (.int (v4)), none, some (.int (v6)), none, none], [.int (1)], (hp M J R c e nL xs D)) := (px_run_eq _ _ _).trans rfl
set_option maxRecDepth 40000 in
theorem eX12_tapes_135 (X : px_X) (M : Nat → Nat → Int32) (J : Nat → Nat → Int64) (R : Nat → Nat → Option Nat) (c e : Nat) (nL : Nat) (xs : Nat → Int32) (D : px_H) (v1 : Int32) (v2 : Int32) (v3 : Int32) (v4 : Int32) (o5 : Option Value) (v6 : Int32) (o7 : Option Value) (o8 : Option Value) : px_run (px_mk (kX12_tapes X)) 135 ([some (.ref 67), some (.int (v1)), some (.int (v2)), some (.int (v3)), some (.int (v4)), o5, some (.int (v6)), o7, o8], [], (hp M J R c e nL xs D)) =
    px_run (px_mk (kX12_tapes X)) 136 ([some (.ref 67), some (.int (v1)), some (.int (v2)), some (.int (v3)), some (.int (v4)), none, some (.int (v6)), none, none], [.int (0)], (hp M J R c e nL xs D)) := (px_run_eq _ _ _).trans rfl
set_option maxRecDepth 40000 in
theorem eX12_tapes_136 (X : px_X) (M : Nat → Nat → Int32) (J : Nat → Nat → Int64) (R : Nat → Nat → Option Nat) (c e : Nat) (nL : Nat) (xs : Nat → Int32) (D : px_H) (v1 : Int32) (v2 : Int32) (v3 : Int32) (v4 : Int32) (o5 : Option Value) (v6 : Int32) (o7 : Option Value) (o8 : Option Value) (w0 : Int32) : px_run (px_mk (kX12_tapes X)) 136 ([some (.ref 67), some (.int (v1)), some (.int (v2)), some (.int (v3)), some (.int (v4)), o5, some (.int (v6)), o7, o8], [.int (w0)], (hp M J R c e nL xs D)) =
    cond (decide (w0 = 0))
    (px_run (px_mk (kX12_tapes X)) 147 ([some (.ref 67), some (.int (v1)), some (.int (v2)), some (.int (v3)), some (.int (v4)), none, some (.int (v6)), some (.int (w0)), none], [], (hp M J R c e nL xs D)))
    (px_run (px_mk (kX12_tapes X)) 182 ([some (.ref 67), some (.int (v1)), some (.int (v2)), some (.int (v3)), some (.int (v4)), none, some (.int (v6)), some (.int (w0)), none], [.int (0)], (hp M J R c e nL xs D))) := (px_run_eq _ _ _).trans rfl
set_option maxRecDepth 40000 in
theorem eX12_tapes_147_24 (X : px_X) (st : px_S) : px_p (kX12_tapes X) 147 24 st = px_run (px_mk (kX12_tapes X)) 182 st := rfl
set_option maxRecDepth 40000 in
theorem eX12_tapes_147 (X : px_X) (M : Nat → Nat → Int32) (J : Nat → Nat → Int64) (R : Nat → Nat → Option Nat) (c e : Nat) (nL : Nat) (xs : Nat → Int32) (D : px_H) (v1 : Int32) (v2 : Int32) (v3 : Int32) (v4 : Int32) (o5 : Option Value) (v6 : Int32) (o7 : Option Value) (o8 : Option Value) : px_run (px_mk (kX12_tapes X)) 147 ([some (.ref 67), some (.int (v1)), some (.int (v2)), some (.int (v3)), some (.int (v4)), o5, some (.int (v6)), o7, o8], [], (hp M J R c e nL xs D)) =
    cond (px_inb (v6) 160)
    (cond (px_inb ((v6 + 1)) 160)
    (cond (px_inb ((v6 + 2)) 160)
    (px_bd (X 170 [.ref 67, .int ((((M 104) (Int32.toNatClampNeg (v6))) / 2)), .int ((((M 104) (Int32.toNatClampNeg ((v6 + 1)))) / 2)), .int ((((M 104) (Int32.toNatClampNeg ((v6 + 2)))) / 2))] (hp M J R c e nL xs D))
    (fun v G1 => px_p (kX12_tapes X) 147 24 ([some (.ref 67), some (.int (v1)), some (.int (v2)), some (.int (v3)), some (.int (v4)), none, some (.int (v6)), none, none], px_psh v [], G1))) none) none) none := (px_run_eq _ _ _).trans rfl
set_option maxRecDepth 40000 in
theorem eX12_tapes_182 (X : px_X) (M : Nat → Nat → Int32) (J : Nat → Nat → Int64) (R : Nat → Nat → Option Nat) (c e : Nat) (nL : Nat) (xs : Nat → Int32) (D : px_H) (v1 : Int32) (v2 : Int32) (v3 : Int32) (v4 : Int32) (o5 : Option Value) (o6 : Option Value) (o7 : Option Value) (o8 : Option Value) (w0 : Int32) : px_run (px_mk (kX12_tapes X)) 182 ([some (.ref 67), some (.int (v1)), some (.int (v2)), some (.int (v3)), some (.int (v4)), o5, o6, o7, o8], [.int (w0)], (hp M J R c e nL xs D)) =
    cond (decide (0 ≤ w0))
    (px_run (px_mk (kX12_tapes X)) 192 ([some (.ref 67), some (.int (v1)), some (.int (v2)), some (.int (v3)), some (.int (v4)), none, none, none, some (.int (w0))], [], (hp M J R c e nL xs D)))
    (some (some (.int (w0)), (hp M J R c e nL xs D))) := (px_run_eq _ _ _).trans rfl
set_option maxRecDepth 40000 in
theorem eX12_tapes_192 (X : px_X) (M : Nat → Nat → Int32) (J : Nat → Nat → Int64) (R : Nat → Nat → Option Nat) (c e : Nat) (nL : Nat) (xs : Nat → Int32) (D : px_H) (v1 : Int32) (v2 : Int32) (v3 : Int32) (v4 : Int32) (o5 : Option Value) (o6 : Option Value) (o7 : Option Value) (o8 : Option Value) : px_run (px_mk (kX12_tapes X)) 192 ([some (.ref 67), some (.int (v1)), some (.int (v2)), some (.int (v3)), some (.int (v4)), o5, o6, o7, o8], [], (hp M J R c e nL xs D)) =
    px_run (px_mk (kX12_tapes X)) 53 ([some (.ref 67), some (.int (v1)), some (.int (v2)), some (.int (v3)), some (.int ((v4 + 1))), none, none, none, none], [], (hp M J R c e nL xs D)) := (px_run_eq _ _ _).trans rfl
set_option maxRecDepth 40000 in
theorem eX12_bar_0 (X : px_X) (M : Nat → Nat → Int32) (J : Nat → Nat → Int64) (R : Nat → Nat → Option Nat) (c e : Nat) (nL : Nat) (xs : Nat → Int32) (D : px_H) (v1 : Int32) : px_run (px_mk (kX12_bar X)) 0 ([some (.ref 67), some (.int (v1)), none], [], (hp M J R c e nL xs D)) =
    px_bd (X 165 [.int (v1), .int (1), .int (15000)] (hp M J R c e nL xs D))
    (fun v G1 => px_p (kX12_bar X) 0 4 ([some (.ref 67), some (.int (v1)), none], px_psh v [], G1)) := (px_run_eq _ _ _).trans rfl
set_option maxRecDepth 40000 in
theorem eX12_bar_0_4 (X : px_X) (M : Nat → Nat → Int32) (J : Nat → Nat → Int64) (R : Nat → Nat → Option Nat) (c e : Nat) (nL : Nat) (xs : Nat → Int32) (D : px_H) (v1 : Int32) (w0 : Int32) : px_p (kX12_bar X) 0 4 ([some (.ref 67), some (.int (v1)), none], [.int (w0)], (hp M J R c e nL xs D)) =
    cond (decide (¬ w0 = 0))
    (px_run (px_mk (kX12_bar X)) 14 ([some (.ref 67), some (.int (v1)), none], [], (hp M J R c e nL xs D)))
    (some (some (.int ((-2))), (hp M J R c e nL xs D))) := rfl
set_option maxRecDepth 40000 in
theorem eX12_bar_14 (X : px_X) (M : Nat → Nat → Int32) (J : Nat → Nat → Int64) (R : Nat → Nat → Option Nat) (c e : Nat) (nL : Nat) (xs : Nat → Int32) (D : px_H) (v1 : Int32) (o2 : Option Value) : px_run (px_mk (kX12_bar X)) 14 ([some (.ref 67), some (.int (v1)), o2], [], (hp M J R c e nL xs D)) =
    some (some (.int (M 67 12)), (hp (px_uR M 67 (upd (upd (M 67) 12 (v1)) 11 (0))) J R c e nL xs D)) := (px_run_eq _ _ _).trans rfl
set_option maxRecDepth 40000 in
theorem eX12_root_0 (X : px_X) (M : Nat → Nat → Int32) (J : Nat → Nat → Int64) (R : Nat → Nat → Option Nat) (c e : Nat) (nL : Nat) (xs : Nat → Int32) (D : px_H) (v0 : Int32) : px_run (px_mk (kX12_root X)) 0 ([some (.int (v0)), none, none, none], [], (hp M J R c e nL xs D)) =
    px_run (px_mk (kX12_root X)) 5 ([some (.int (v0)), some (.int (0)), some (.int (32768)), none], [], (hp M J R c e nL xs D)) := (px_run_eq _ _ _).trans rfl
set_option maxRecDepth 40000 in
theorem eX12_root_5 (X : px_X) (M : Nat → Nat → Int32) (J : Nat → Nat → Int64) (R : Nat → Nat → Option Nat) (c e : Nat) (nL : Nat) (xs : Nat → Int32) (D : px_H) (v0 : Int32) (v1 : Int32) (v2 : Int32) (o3 : Option Value) : px_run (px_mk (kX12_root X)) 5 ([some (.int (v0)), some (.int (v1)), some (.int (v2)), o3], [], (hp M J R c e nL xs D)) =
    cond (decide (v2 ≤ 0))
    (px_run (px_mk (kX12_root X)) 39 ([some (.int (v0)), some (.int (v1)), some (.int (v2)), none], [], (hp M J R c e nL xs D)))
    (cond (decide (46340 < (v1 + v2)))
    (px_run (px_mk (kX12_root X)) 30 ([some (.int (v0)), some (.int (v1)), some (.int (v2)), some (.int ((v1 + v2)))], [], (hp M J R c e nL xs D)))
    (cond (decide (v0 < ((v1 + v2) * (v1 + v2))))
    (px_run (px_mk (kX12_root X)) 30 ([some (.int (v0)), some (.int (v1)), some (.int (v2)), some (.int ((v1 + v2)))], [], (hp M J R c e nL xs D)))
    (px_run (px_mk (kX12_root X)) 31 ([some (.int (v0)), some (.int (v1)), some (.int (v2)), some (.int ((v1 + v2)))], [.int ((v1 + v2))], (hp M J R c e nL xs D))))) := (px_run_eq _ _ _).trans rfl
set_option maxRecDepth 40000 in
theorem eX12_root_39 (X : px_X) (M : Nat → Nat → Int32) (J : Nat → Nat → Int64) (R : Nat → Nat → Option Nat) (c e : Nat) (nL : Nat) (xs : Nat → Int32) (D : px_H) (o0 : Option Value) (v1 : Int32) (o2 : Option Value) (o3 : Option Value) : px_run (px_mk (kX12_root X)) 39 ([o0, some (.int (v1)), o2, o3], [], (hp M J R c e nL xs D)) =
    some (some (.int (v1)), (hp M J R c e nL xs D)) := (px_run_eq _ _ _).trans rfl
set_option maxRecDepth 40000 in
theorem eX12_root_30 (X : px_X) (M : Nat → Nat → Int32) (J : Nat → Nat → Int64) (R : Nat → Nat → Option Nat) (c e : Nat) (nL : Nat) (xs : Nat → Int32) (D : px_H) (v0 : Int32) (v1 : Int32) (v2 : Int32) (o3 : Option Value) : px_run (px_mk (kX12_root X)) 30 ([some (.int (v0)), some (.int (v1)), some (.int (v2)), o3], [], (hp M J R c e nL xs D)) =
    px_run (px_mk (kX12_root X)) 31 ([some (.int (v0)), some (.int (v1)), some (.int (v2)), none], [.int (v1)], (hp M J R c e nL xs D)) := (px_run_eq _ _ _).trans rfl
set_option maxRecDepth 40000 in
theorem eX12_root_31 (X : px_X) (M : Nat → Nat → Int32) (J : Nat → Nat → Int64) (R : Nat → Nat → Option Nat) (c e : Nat) (nL : Nat) (xs : Nat → Int32) (D : px_H) (v0 : Int32) (o1 : Option Value) (v2 : Int32) (o3 : Option Value) (w0 : Int32) : px_run (px_mk (kX12_root X)) 31 ([some (.int (v0)), o1, some (.int (v2)), o3], [.int (w0)], (hp M J R c e nL xs D)) =
    px_run (px_mk (kX12_root X)) 5 ([some (.int (v0)), some (.int (w0)), some (.int ((v2 >>> (1 &&& 31)))), none], [], (hp M J R c e nL xs D)) := (px_run_eq _ _ _).trans rfl
set_option maxRecDepth 40000 in
theorem eX12_miss_0 (X : px_X) (M : Nat → Nat → Int32) (J : Nat → Nat → Int64) (R : Nat → Nat → Option Nat) (c e : Nat) (nL : Nat) (xs : Nat → Int32) (D : px_H) (v1 : Int32) : px_run (px_mk (kX12_miss X)) 0 ([some (.ref 67), some (.int (v1)), none, none], [], (hp M J R c e nL xs D)) =
    cond (px_inb (v1) 24)
    (cond (px_inb (((M 73) (Int32.toNatClampNeg (v1)))) 8)
    (cond (px_inb (v1) 24)
    (cond (px_inb (((M 74) (Int32.toNatClampNeg (v1)))) 8)
    (cond (px_inb (v1) 24)
    (cond (px_inb (((M 73) (Int32.toNatClampNeg (v1)))) 8)
    (cond (px_inb (v1) 24)
    (cond (px_inb (((M 74) (Int32.toNatClampNeg (v1)))) 8)
    (px_bd (X 173 [.int ((((((M 70) (Int32.toNatClampNeg (((M 73) (Int32.toNatClampNeg (v1)))))) - ((M 70) (Int32.toNatClampNeg (((M 74) (Int32.toNatClampNeg (v1))))))) * (((M 70) (Int32.toNatClampNeg (((M 73) (Int32.toNatClampNeg (v1)))))) - ((M 70) (Int32.toNatClampNeg (((M 74) (Int32.toNatClampNeg (v1)))))))) + ((((M 71) (Int32.toNatClampNeg (((M 73) (Int32.toNatClampNeg (v1)))))) - ((M 71) (Int32.toNatClampNeg (((M 74) (Int32.toNatClampNeg (v1))))))) * (((M 71) (Int32.toNatClampNeg (((M 73) (Int32.toNatClampNeg (v1)))))) - ((M 71) (Int32.toNatClampNeg (((M 74) (Int32.toNatClampNeg (v1))))))))))] (hp M J R c e nL xs D))
    (fun v G1 => px_p (kX12_miss X) 0 40 ([some (.ref 67), some (.int (v1)), some (.int ((((M 70) (Int32.toNatClampNeg (((M 73) (Int32.toNatClampNeg (v1)))))) - ((M 70) (Int32.toNatClampNeg (((M 74) (Int32.toNatClampNeg (v1))))))))), some (.int ((((M 71) (Int32.toNatClampNeg (((M 73) (Int32.toNatClampNeg (v1)))))) - ((M 71) (Int32.toNatClampNeg (((M 74) (Int32.toNatClampNeg (v1)))))))))], px_psh v [], G1))) none) none) none) none) none) none) none) none := (px_run_eq _ _ _).trans rfl
set_option maxRecDepth 40000 in
theorem eX12_miss_0_40 (X : px_X) (M : Nat → Nat → Int32) (J : Nat → Nat → Int64) (R : Nat → Nat → Option Nat) (c e : Nat) (nL : Nat) (xs : Nat → Int32) (D : px_H) (v1 : Int32) (v2 : Int32) (v3 : Int32) (w0 : Int32) : px_p (kX12_miss X) 0 40 ([some (.ref 67), some (.int (v1)), some (.int (v2)), some (.int (v3))], [.int (w0)], (hp M J R c e nL xs D)) =
    cond (px_inb (v1) 24)
    (some (some (.int ((w0 - ((M 75) (Int32.toNatClampNeg (v1)))))), (hp M J R c e nL xs D))) none := rfl
set_option maxRecDepth 40000 in
theorem eX12_misses_0 (X : px_X) (M : Nat → Nat → Int32) (J : Nat → Nat → Int64) (R : Nat → Nat → Option Nat) (c e : Nat) (nL : Nat) (xs : Nat → Int32) (D : px_H) (v1 : Int32) : px_run (px_mk (kX12_misses X)) 0 ([some (.ref 67), some (.int (v1)), none, none, none, none, none], [], (hp M J R c e nL xs D)) =
    px_run (px_mk (kX12_misses X)) 5 ([some (.ref 67), some (.int (v1)), some (.long (0)), none, some (.int (0)), none, none], [], (hp M J R c e nL xs D)) := (px_run_eq _ _ _).trans rfl
set_option maxRecDepth 40000 in
theorem eX12_misses_5 (X : px_X) (M : Nat → Nat → Int32) (J : Nat → Nat → Int64) (R : Nat → Nat → Option Nat) (c e : Nat) (nL : Nat) (xs : Nat → Int32) (D : px_H) (v1 : Int32) (v2 : Int64) (v4 : Int32) (o5 : Option Value) (o6 : Option Value) : px_run (px_mk (kX12_misses X)) 5 ([some (.ref 67), some (.int (v1)), some (.long (v2)), none, some (.int (v4)), o5, o6], [], (hp M J R c e nL xs D)) =
    cond (decide (M 67 6 ≤ v4))
    (px_run (px_mk (kX12_misses X)) 69 ([some (.ref 67), some (.int (v1)), some (.long (v2)), none, some (.int (v4)), none, none], [], (hp M J R c e nL xs D)))
    (cond (px_inb (v4) 24)
    (cond (decide (¬ ((M 76) (Int32.toNatClampNeg (v4))) = 0))
    (px_run (px_mk (kX12_misses X)) 63 ([some (.ref 67), some (.int (v1)), some (.long (v2)), none, some (.int (v4)), none, none], [], (hp M J R c e nL xs D)))
    (cond (px_inb (v4) 24)
    (cond (decide (((M 73) (Int32.toNatClampNeg (v4))) = v1))
    (px_run (px_mk (kX12_misses X)) 46 ([some (.ref 67), some (.int (v1)), some (.long (v2)), none, some (.int (v4)), none, none], [], (hp M J R c e nL xs D)))
    (cond (px_inb (v4) 24)
    (cond (decide (¬ ((M 74) (Int32.toNatClampNeg (v4))) = v1))
    (px_run (px_mk (kX12_misses X)) 63 ([some (.ref 67), some (.int (v1)), some (.long (v2)), none, some (.int (v4)), none, none], [], (hp M J R c e nL xs D)))
    (px_run (px_mk (kX12_misses X)) 46 ([some (.ref 67), some (.int (v1)), some (.long (v2)), none, some (.int (v4)), none, none], [], (hp M J R c e nL xs D)))) none)) none)) none) := (px_run_eq _ _ _).trans rfl
set_option maxRecDepth 40000 in
theorem eX12_misses_69 (X : px_X) (M : Nat → Nat → Int32) (J : Nat → Nat → Int64) (R : Nat → Nat → Option Nat) (c e : Nat) (nL : Nat) (xs : Nat → Int32) (D : px_H) (o0 : Option Value) (o1 : Option Value) (v2 : Int64) (o4 : Option Value) (o5 : Option Value) (o6 : Option Value) : px_run (px_mk (kX12_misses X)) 69 ([o0, o1, some (.long (v2)), none, o4, o5, o6], [], (hp M J R c e nL xs D)) =
    some (some (.long (v2)), (hp M J R c e nL xs D)) := (px_run_eq _ _ _).trans rfl
set_option maxRecDepth 40000 in
theorem eX12_misses_63 (X : px_X) (M : Nat → Nat → Int32) (J : Nat → Nat → Int64) (R : Nat → Nat → Option Nat) (c e : Nat) (nL : Nat) (xs : Nat → Int32) (D : px_H) (v1 : Int32) (v2 : Int64) (v4 : Int32) (o5 : Option Value) (o6 : Option Value) : px_run (px_mk (kX12_misses X)) 63 ([some (.ref 67), some (.int (v1)), some (.long (v2)), none, some (.int (v4)), o5, o6], [], (hp M J R c e nL xs D)) =
    px_run (px_mk (kX12_misses X)) 5 ([some (.ref 67), some (.int (v1)), some (.long (v2)), none, some (.int ((v4 + 1))), none, none], [], (hp M J R c e nL xs D)) := (px_run_eq _ _ _).trans rfl
set_option maxRecDepth 40000 in
theorem eX12_misses_46 (X : px_X) (M : Nat → Nat → Int32) (J : Nat → Nat → Int64) (R : Nat → Nat → Option Nat) (c e : Nat) (nL : Nat) (xs : Nat → Int32) (D : px_H) (v1 : Int32) (v2 : Int64) (v4 : Int32) (o5 : Option Value) (o6 : Option Value) : px_run (px_mk (kX12_misses X)) 46 ([some (.ref 67), some (.int (v1)), some (.long (v2)), none, some (.int (v4)), o5, o6], [], (hp M J R c e nL xs D)) =
    px_bd (X 174 [.ref 67, .int (v4)] (hp M J R c e nL xs D))
    (fun v G1 => px_p (kX12_misses X) 46 3 ([some (.ref 67), some (.int (v1)), some (.long (v2)), none, some (.int (v4)), none, none], px_psh v [], G1)) := (px_run_eq _ _ _).trans rfl
set_option maxRecDepth 40000 in
theorem eX12_misses_46_3 (X : px_X) (M : Nat → Nat → Int32) (J : Nat → Nat → Int64) (R : Nat → Nat → Option Nat) (c e : Nat) (nL : Nat) (xs : Nat → Int32) (D : px_H) (v1 : Int32) (v2 : Int64) (v4 : Int32) (w0 : Int32) : px_p (kX12_misses X) 46 3 ([some (.ref 67), some (.int (v1)), some (.long (v2)), none, some (.int (v4)), none, none], [.int (w0)], (hp M J R c e nL xs D)) =
    px_run (px_mk (kX12_misses X)) 63 ([some (.ref 67), some (.int (v1)), some (.long ((v2 + ((Int32.toInt64 w0) * (Int32.toInt64 w0))))), none, some (.int (v4)), some (.long ((Int32.toInt64 w0))), none], [], (hp M J R c e nL xs D)) := rfl
set_option maxRecDepth 40000 in
theorem eX12_goes_0 (X : px_X) (M : Nat → Nat → Int32) (J : Nat → Nat → Int64) (R : Nat → Nat → Option Nat) (c e : Nat) (nL : Nat) (xs : Nat → Int32) (D : px_H) (v1 : Int32) (v2 : Int32) : px_run (px_mk (kX12_goes X)) 0 ([some (.ref 67), some (.int (v1)), some (.int (v2)), none, none, none, none, none, none, none, none, none, none], [], (hp M J R c e nL xs D)) =
    cond (px_inb (v1) 8)
    (cond (px_inb (v1) 8)
    (px_bd (X 175 [.ref 67, .int (v1)] (hp M J R c e nL xs D))
    (fun v G1 => px_p (kX12_goes X) 0 17 ([some (.ref 67), some (.int (v1)), some (.int (v2)), some (.int (((M 70) (Int32.toNatClampNeg (v1))))), some (.int (((M 71) (Int32.toNatClampNeg (v1))))), some (.int (((M 70) (Int32.toNatClampNeg (v1))))), some (.int (((M 71) (Int32.toNatClampNeg (v1))))), none, none, none, none, none, none], px_psh v [], G1))) none) none := (px_run_eq _ _ _).trans rfl
set_option maxRecDepth 40000 in
theorem eX12_goes_0_17 (X : px_X) (M : Nat → Nat → Int32) (J : Nat → Nat → Int64) (R : Nat → Nat → Option Nat) (c e : Nat) (nL : Nat) (xs : Nat → Int32) (D : px_H) (v1 : Int32) (v2 : Int32) (v3 : Int32) (v4 : Int32) (v5 : Int32) (v6 : Int32) (w0 : Int64) : px_p (kX12_goes X) 0 17 ([some (.ref 67), some (.int (v1)), some (.int (v2)), some (.int (v3)), some (.int (v4)), some (.int (v5)), some (.int (v6)), none, none, none, none, none, none], [.long (w0)], (hp M J R c e nL xs D)) =
    px_run (px_mk (kX12_goes X)) 32 ([some (.ref 67), some (.int (v1)), some (.int (v2)), some (.int (v3)), some (.int (v4)), some (.int (v5)), some (.int (v6)), some (.long (w0)), none, some (.int ((-1))), none, none, none], [], (hp M J R c e nL xs D)) := rfl
set_option maxRecDepth 40000 in
theorem eX12_goes_32 (X : px_X) (M : Nat → Nat → Int32) (J : Nat → Nat → Int64) (R : Nat → Nat → Option Nat) (c e : Nat) (nL : Nat) (xs : Nat → Int32) (D : px_H) (v1 : Int32) (v2 : Int32) (v3 : Int32) (v4 : Int32) (v5 : Int32) (v6 : Int32) (v7 : Int64) (v9 : Int32) (o10 : Option Value) (o11 : Option Value) (o12 : Option Value) : px_run (px_mk (kX12_goes X)) 32 ([some (.ref 67), some (.int (v1)), some (.int (v2)), some (.int (v3)), some (.int (v4)), some (.int (v5)), some (.int (v6)), some (.long (v7)), none, some (.int (v9)), o10, o11, o12], [], (hp M J R c e nL xs D)) =
    cond (decide (1 < v9))
    (px_run (px_mk (kX12_goes X)) 119 ([some (.ref 67), some (.int (v1)), some (.int (v2)), some (.int (v3)), some (.int (v4)), some (.int (v5)), some (.int (v6)), some (.long (v7)), none, some (.int (v9)), none, none, none], [], (hp M J R c e nL xs D)))
    (px_run (px_mk (kX12_goes X)) 41 ([some (.ref 67), some (.int (v1)), some (.int (v2)), some (.int (v3)), some (.int (v4)), some (.int (v5)), some (.int (v6)), some (.long (v7)), none, some (.int (v9)), some (.int ((-1))), none, none], [], (hp M J R c e nL xs D))) := (px_run_eq _ _ _).trans rfl
set_option maxRecDepth 40000 in
theorem eX12_goes_119 (X : px_X) (M : Nat → Nat → Int32) (J : Nat → Nat → Int64) (R : Nat → Nat → Option Nat) (c e : Nat) (nL : Nat) (xs : Nat → Int32) (D : px_H) (v1 : Int32) (o2 : Option Value) (o3 : Option Value) (o4 : Option Value) (v5 : Int32) (v6 : Int32) (o7 : Option Value) (o8 : Option Value) (o9 : Option Value) (o10 : Option Value) (o11 : Option Value) (o12 : Option Value) : px_run (px_mk (kX12_goes X)) 119 ([some (.ref 67), some (.int (v1)), o2, o3, o4, some (.int (v5)), some (.int (v6)), o7, o8, o9, o10, o11, o12], [], (hp M J R c e nL xs D)) =
    cond (px_inb (v1) 8)
    (cond (px_inb (v1) 8)
    (some (none, (hp (px_uR (px_uR M 70 (upd (M 70) (Int32.toNatClampNeg (v1)) (v5))) 71 (upd (M 71) (Int32.toNatClampNeg (v1)) (v6))) J R c e nL xs D))) none) none := (px_run_eq _ _ _).trans rfl
set_option maxRecDepth 40000 in
theorem eX12_goes_41 (X : px_X) (M : Nat → Nat → Int32) (J : Nat → Nat → Int64) (R : Nat → Nat → Option Nat) (c e : Nat) (nL : Nat) (xs : Nat → Int32) (D : px_H) (v1 : Int32) (v2 : Int32) (v3 : Int32) (v4 : Int32) (v5 : Int32) (v6 : Int32) (v7 : Int64) (v9 : Int32) (v10 : Int32) (o11 : Option Value) (o12 : Option Value) : px_run (px_mk (kX12_goes X)) 41 ([some (.ref 67), some (.int (v1)), some (.int (v2)), some (.int (v3)), some (.int (v4)), some (.int (v5)), some (.int (v6)), some (.long (v7)), none, some (.int (v9)), some (.int (v10)), o11, o12], [], (hp M J R c e nL xs D)) =
    cond (decide (1 < v10))
    (px_run (px_mk (kX12_goes X)) 113 ([some (.ref 67), some (.int (v1)), some (.int (v2)), some (.int (v3)), some (.int (v4)), some (.int (v5)), some (.int (v6)), some (.long (v7)), none, some (.int (v9)), some (.int (v10)), none, none], [], (hp M J R c e nL xs D)))
    (cond (px_inb (v1) 8)
    (cond (px_inb (v1) 8)
    (px_bd (X 175 [.ref 67, .int (v1)] (hp (px_uR (px_uR M 70 (upd (M 70) (Int32.toNatClampNeg (v1)) ((v3 + (v9 * v2))))) 71 (upd (M 71) (Int32.toNatClampNeg (v1)) ((v4 + (v10 * v2))))) J R c e nL xs D))
    (fun v G1 => px_p (kX12_goes X) 41 24 ([some (.ref 67), some (.int (v1)), some (.int (v2)), some (.int (v3)), some (.int (v4)), some (.int (v5)), some (.int (v6)), some (.long (v7)), none, some (.int (v9)), some (.int (v10)), none, none], px_psh v [], G1))) none) none) := (px_run_eq _ _ _).trans rfl
set_option maxRecDepth 40000 in
theorem eX12_goes_113 (X : px_X) (M : Nat → Nat → Int32) (J : Nat → Nat → Int64) (R : Nat → Nat → Option Nat) (c e : Nat) (nL : Nat) (xs : Nat → Int32) (D : px_H) (v1 : Int32) (v2 : Int32) (v3 : Int32) (v4 : Int32) (v5 : Int32) (v6 : Int32) (v7 : Int64) (v9 : Int32) (o10 : Option Value) (o11 : Option Value) (o12 : Option Value) : px_run (px_mk (kX12_goes X)) 113 ([some (.ref 67), some (.int (v1)), some (.int (v2)), some (.int (v3)), some (.int (v4)), some (.int (v5)), some (.int (v6)), some (.long (v7)), none, some (.int (v9)), o10, o11, o12], [], (hp M J R c e nL xs D)) =
    px_run (px_mk (kX12_goes X)) 32 ([some (.ref 67), some (.int (v1)), some (.int (v2)), some (.int (v3)), some (.int (v4)), some (.int (v5)), some (.int (v6)), some (.long (v7)), none, some (.int ((v9 + 1))), none, none, none], [], (hp M J R c e nL xs D)) := (px_run_eq _ _ _).trans rfl
set_option maxRecDepth 40000 in
theorem eX12_goes_41_24 (X : px_X) (M : Nat → Nat → Int32) (J : Nat → Nat → Int64) (R : Nat → Nat → Option Nat) (c e : Nat) (nL : Nat) (xs : Nat → Int32) (D : px_H) (v1 : Int32) (v2 : Int32) (v3 : Int32) (v4 : Int32) (v5 : Int32) (v6 : Int32) (v7 : Int64) (v9 : Int32) (v10 : Int32) (w0 : Int64) : px_p (kX12_goes X) 41 24 ([some (.ref 67), some (.int (v1)), some (.int (v2)), some (.int (v3)), some (.int (v4)), some (.int (v5)), some (.int (v6)), some (.long (v7)), none, some (.int (v9)), some (.int (v10)), none, none], [.long (w0)], (hp M J R c e nL xs D)) =
    cond (decide (0 ≤ (lg_cmp w0 v7)))
    (px_run (px_mk (kX12_goes X)) 107 ([some (.ref 67), some (.int (v1)), some (.int (v2)), some (.int (v3)), some (.int (v4)), some (.int (v5)), some (.int (v6)), some (.long (v7)), none, some (.int (v9)), some (.int (v10)), some (.long (w0)), none], [], (hp M J R c e nL xs D)))
    (cond (px_inb (v1) 8)
    (cond (px_inb (v1) 8)
    (px_run (px_mk (kX12_goes X)) 107 ([some (.ref 67), some (.int (v1)), some (.int (v2)), some (.int (v3)), some (.int (v4)), some (.int (((M 70) (Int32.toNatClampNeg (v1))))), some (.int (((M 71) (Int32.toNatClampNeg (v1))))), some (.long (w0)), none, some (.int (v9)), some (.int (v10)), some (.long (w0)), none], [], (hp M J R c e nL xs D))) none) none) := rfl
set_option maxRecDepth 40000 in
theorem eX12_goes_107 (X : px_X) (M : Nat → Nat → Int32) (J : Nat → Nat → Int64) (R : Nat → Nat → Option Nat) (c e : Nat) (nL : Nat) (xs : Nat → Int32) (D : px_H) (v1 : Int32) (v2 : Int32) (v3 : Int32) (v4 : Int32) (v5 : Int32) (v6 : Int32) (v7 : Int64) (v9 : Int32) (v10 : Int32) (o11 : Option Value) (o12 : Option Value) : px_run (px_mk (kX12_goes X)) 107 ([some (.ref 67), some (.int (v1)), some (.int (v2)), some (.int (v3)), some (.int (v4)), some (.int (v5)), some (.int (v6)), some (.long (v7)), none, some (.int (v9)), some (.int (v10)), o11, o12], [], (hp M J R c e nL xs D)) =
    px_run (px_mk (kX12_goes X)) 41 ([some (.ref 67), some (.int (v1)), some (.int (v2)), some (.int (v3)), some (.int (v4)), some (.int (v5)), some (.int (v6)), some (.long (v7)), none, some (.int (v9)), some (.int ((v10 + 1))), none, none], [], (hp M J R c e nL xs D)) := (px_run_eq _ _ _).trans rfl
set_option maxRecDepth 40000 in
theorem eX12_fits_0 (X : px_X) (M : Nat → Nat → Int32) (J : Nat → Nat → Int64) (R : Nat → Nat → Option Nat) (c e : Nat) (nL : Nat) (xs : Nat → Int32) (D : px_H)  : px_run (px_mk (kX12_fits X)) 0 ([some (.ref 67), none, none, none], [], (hp M J R c e nL xs D)) =
    px_run (px_mk (kX12_fits X)) 2 ([some (.ref 67), some (.int (0)), none, none], [], (hp M J R c e nL xs D)) := (px_run_eq _ _ _).trans rfl
set_option maxRecDepth 40000 in
theorem eX12_fits_2 (X : px_X) (M : Nat → Nat → Int32) (J : Nat → Nat → Int64) (R : Nat → Nat → Option Nat) (c e : Nat) (nL : Nat) (xs : Nat → Int32) (D : px_H) (v1 : Int32) (o2 : Option Value) (o3 : Option Value) : px_run (px_mk (kX12_fits X)) 2 ([some (.ref 67), some (.int (v1)), o2, o3], [], (hp M J R c e nL xs D)) =
    cond (decide (M 67 0 ≤ v1))
    (px_run (px_mk (kX12_fits X)) 40 ([some (.ref 67), some (.int (v1)), none, none], [], (hp M J R c e nL xs D)))
    (cond (px_inb (v1) 8)
    (cond (px_inb (v1) 8)
    (cond (px_inb (v1) 8)
    (cond (px_inb (v1) 8)
    (px_run (px_mk (kX12_fits X)) 2 ([some (.ref 67), some (.int ((v1 + 1))), none, none], [], (hp (px_uR (px_uR M 70 (upd (M 70) (Int32.toNatClampNeg (v1)) (((M 68) (Int32.toNatClampNeg (v1)))))) 71 (upd (M 71) (Int32.toNatClampNeg (v1)) (((M 69) (Int32.toNatClampNeg (v1)))))) J R c e nL xs D))) none) none) none) none) := (px_run_eq _ _ _).trans rfl
set_option maxRecDepth 40000 in
theorem eX12_fits_40 (X : px_X) (M : Nat → Nat → Int32) (J : Nat → Nat → Int64) (R : Nat → Nat → Option Nat) (c e : Nat) (nL : Nat) (xs : Nat → Int32) (D : px_H) (o1 : Option Value) (o2 : Option Value) (o3 : Option Value) : px_run (px_mk (kX12_fits X)) 40 ([some (.ref 67), o1, o2, o3], [], (hp M J R c e nL xs D)) =
    px_run (px_mk (kX12_fits X)) 44 ([some (.ref 67), some (.int (512)), none, none], [], (hp M J R c e nL xs D)) := (px_run_eq _ _ _).trans rfl
set_option maxRecDepth 40000 in
theorem eX12_fits_44 (X : px_X) (M : Nat → Nat → Int32) (J : Nat → Nat → Int64) (R : Nat → Nat → Option Nat) (c e : Nat) (nL : Nat) (xs : Nat → Int32) (D : px_H) (v1 : Int32) (o2 : Option Value) (o3 : Option Value) : px_run (px_mk (kX12_fits X)) 44 ([some (.ref 67), some (.int (v1)), o2, o3], [], (hp M J R c e nL xs D)) =
    cond (decide (v1 ≤ 0))
    (px_run (px_mk (kX12_fits X)) 99 ([some (.ref 67), some (.int (v1)), none, none], [], (hp M J R c e nL xs D)))
    (px_run (px_mk (kX12_fits X)) 50 ([some (.ref 67), some (.int (v1)), some (.int (0)), none], [], (hp M J R c e nL xs D))) := (px_run_eq _ _ _).trans rfl
set_option maxRecDepth 40000 in
theorem eX12_fits_99 (X : px_X) (M : Nat → Nat → Int32) (J : Nat → Nat → Int64) (R : Nat → Nat → Option Nat) (c e : Nat) (nL : Nat) (xs : Nat → Int32) (D : px_H) (o0 : Option Value) (o1 : Option Value) (o2 : Option Value) (o3 : Option Value) : px_run (px_mk (kX12_fits X)) 99 ([o0, o1, o2, o3], [], (hp M J R c e nL xs D)) =
    some (none, (hp M J R c e nL xs D)) := (px_run_eq _ _ _).trans rfl
set_option maxRecDepth 40000 in
theorem eX12_fits_50 (X : px_X) (M : Nat → Nat → Int32) (J : Nat → Nat → Int64) (R : Nat → Nat → Option Nat) (c e : Nat) (nL : Nat) (xs : Nat → Int32) (D : px_H) (v1 : Int32) (v2 : Int32) (o3 : Option Value) : px_run (px_mk (kX12_fits X)) 50 ([some (.ref 67), some (.int (v1)), some (.int (v2)), o3], [], (hp M J R c e nL xs D)) =
    cond (decide (4 ≤ v2))
    (px_run (px_mk (kX12_fits X)) 92 ([some (.ref 67), some (.int (v1)), some (.int (v2)), none], [], (hp M J R c e nL xs D)))
    (px_run (px_mk (kX12_fits X)) 57 ([some (.ref 67), some (.int (v1)), some (.int (v2)), some (.int (0))], [], (hp M J R c e nL xs D))) := (px_run_eq _ _ _).trans rfl
set_option maxRecDepth 40000 in
theorem eX12_fits_92 (X : px_X) (M : Nat → Nat → Int32) (J : Nat → Nat → Int64) (R : Nat → Nat → Option Nat) (c e : Nat) (nL : Nat) (xs : Nat → Int32) (D : px_H) (v1 : Int32) (o2 : Option Value) (o3 : Option Value) : px_run (px_mk (kX12_fits X)) 92 ([some (.ref 67), some (.int (v1)), o2, o3], [], (hp M J R c e nL xs D)) =
    px_run (px_mk (kX12_fits X)) 44 ([some (.ref 67), some (.int ((v1 / 2))), none, none], [], (hp M J R c e nL xs D)) := (px_run_eq _ _ _).trans rfl
set_option maxRecDepth 40000 in
theorem eX12_fits_57_13 (X : px_X) (st : px_S) : px_p (kX12_fits X) 57 13 st = px_run (px_mk (kX12_fits X)) 80 st := rfl
set_option maxRecDepth 40000 in
theorem eX12_fits_57 (X : px_X) (M : Nat → Nat → Int32) (J : Nat → Nat → Int64) (R : Nat → Nat → Option Nat) (c e : Nat) (nL : Nat) (xs : Nat → Int32) (D : px_H) (v1 : Int32) (v2 : Int32) (v3 : Int32) : px_run (px_mk (kX12_fits X)) 57 ([some (.ref 67), some (.int (v1)), some (.int (v2)), some (.int (v3))], [], (hp M J R c e nL xs D)) =
    cond (decide (M 67 0 ≤ v3))
    (px_run (px_mk (kX12_fits X)) 86 ([some (.ref 67), some (.int (v1)), some (.int (v2)), some (.int (v3))], [], (hp M J R c e nL xs D)))
    (cond (px_inb (v3) 8)
    (cond (decide (¬ ((M 72) (Int32.toNatClampNeg (v3))) = 0))
    (px_run (px_mk (kX12_fits X)) 80 ([some (.ref 67), some (.int (v1)), some (.int (v2)), some (.int (v3))], [], (hp M J R c e nL xs D)))
    (px_bd (X 176 [.ref 67, .int (v3), .int (v1)] (hp M J R c e nL xs D))
    (fun v G1 => px_p (kX12_fits X) 57 13 ([some (.ref 67), some (.int (v1)), some (.int (v2)), some (.int (v3))], px_psh v [], G1)))) none) := (px_run_eq _ _ _).trans rfl
set_option maxRecDepth 40000 in
theorem eX12_fits_86 (X : px_X) (M : Nat → Nat → Int32) (J : Nat → Nat → Int64) (R : Nat → Nat → Option Nat) (c e : Nat) (nL : Nat) (xs : Nat → Int32) (D : px_H) (v1 : Int32) (v2 : Int32) (o3 : Option Value) : px_run (px_mk (kX12_fits X)) 86 ([some (.ref 67), some (.int (v1)), some (.int (v2)), o3], [], (hp M J R c e nL xs D)) =
    px_run (px_mk (kX12_fits X)) 50 ([some (.ref 67), some (.int (v1)), some (.int ((v2 + 1))), none], [], (hp M J R c e nL xs D)) := (px_run_eq _ _ _).trans rfl
set_option maxRecDepth 40000 in
theorem eX12_fits_80 (X : px_X) (M : Nat → Nat → Int32) (J : Nat → Nat → Int64) (R : Nat → Nat → Option Nat) (c e : Nat) (nL : Nat) (xs : Nat → Int32) (D : px_H) (v1 : Int32) (v2 : Int32) (v3 : Int32) : px_run (px_mk (kX12_fits X)) 80 ([some (.ref 67), some (.int (v1)), some (.int (v2)), some (.int (v3))], [], (hp M J R c e nL xs D)) =
    px_run (px_mk (kX12_fits X)) 57 ([some (.ref 67), some (.int (v1)), some (.int (v2)), some (.int ((v3 + 1)))], [], (hp M J R c e nL xs D)) := (px_run_eq _ _ _).trans rfl
set_option maxRecDepth 40000 in
theorem eX12_knows_0 (X : px_X) (M : Nat → Nat → Int32) (J : Nat → Nat → Int64) (R : Nat → Nat → Option Nat) (c e : Nat) (nL : Nat) (xs : Nat → Int32) (D : px_H)  : px_run (px_mk (kX12_knows X)) 0 ([some (.ref 67), none, none, none, none], [], (hp M J R c e nL xs D)) =
    cond (decide (M 67 11 = 0))
    (px_run (px_mk (kX12_knows X)) 8 ([some (.ref 67), none, none, none, none], [], (hp M J R c e nL xs D)))
    (some (none, (hp M J R c e nL xs D))) := (px_run_eq _ _ _).trans rfl
set_option maxRecDepth 40000 in
theorem eX12_knows_8 (X : px_X) (M : Nat → Nat → Int32) (J : Nat → Nat → Int64) (R : Nat → Nat → Option Nat) (c e : Nat) (nL : Nat) (xs : Nat → Int32) (D : px_H) (o1 : Option Value) (o2 : Option Value) (o3 : Option Value) (o4 : Option Value) : px_run (px_mk (kX12_knows X)) 8 ([some (.ref 67), o1, o2, o3, o4], [], (hp M J R c e nL xs D)) =
    px_run (px_mk (kX12_knows X)) 15 ([some (.ref 67), some (.int (0)), none, none, none], [], (hp (px_uR M 67 (upd (M 67) 11 (1))) J R c e nL xs D)) := (px_run_eq _ _ _).trans rfl
set_option maxRecDepth 40000 in
theorem eX12_knows_15 (X : px_X) (M : Nat → Nat → Int32) (J : Nat → Nat → Int64) (R : Nat → Nat → Option Nat) (c e : Nat) (nL : Nat) (xs : Nat → Int32) (D : px_H) (v1 : Int32) (o2 : Option Value) (o3 : Option Value) (o4 : Option Value) : px_run (px_mk (kX12_knows X)) 15 ([some (.ref 67), some (.int (v1)), o2, o3, o4], [], (hp M J R c e nL xs D)) =
    cond (decide (M 67 6 ≤ v1))
    (px_run (px_mk (kX12_knows X)) 36 ([some (.ref 67), some (.int (v1)), none, none, none], [], (hp M J R c e nL xs D)))
    (cond (px_inb (v1) 24 && true)
    (px_run (px_mk (kX12_knows X)) 15 ([some (.ref 67), some (.int ((v1 + 1))), none, none, none], [], (hp (px_uR M 76 (upd (M 76) (Int32.toNatClampNeg (v1)) (0))) J R c e nL xs D))) none) := (px_run_eq _ _ _).trans rfl
set_option maxRecDepth 40000 in
theorem eX12_knows_36 (X : px_X) (M : Nat → Nat → Int32) (J : Nat → Nat → Int64) (R : Nat → Nat → Option Nat) (c e : Nat) (nL : Nat) (xs : Nat → Int32) (D : px_H) (o1 : Option Value) (o2 : Option Value) (o3 : Option Value) (o4 : Option Value) : px_run (px_mk (kX12_knows X)) 36 ([some (.ref 67), o1, o2, o3, o4], [], (hp M J R c e nL xs D)) =
    px_run (px_mk (kX12_knows X)) 38 ([some (.ref 67), some (.int (0)), none, none, none], [], (hp M J R c e nL xs D)) := (px_run_eq _ _ _).trans rfl
set_option maxRecDepth 40000 in
theorem eX12_knows_38 (X : px_X) (M : Nat → Nat → Int32) (J : Nat → Nat → Int64) (R : Nat → Nat → Option Nat) (c e : Nat) (nL : Nat) (xs : Nat → Int32) (D : px_H) (v1 : Int32) (o2 : Option Value) (o3 : Option Value) (o4 : Option Value) : px_run (px_mk (kX12_knows X)) 38 ([some (.ref 67), some (.int (v1)), o2, o3, o4], [], (hp M J R c e nL xs D)) =
    cond (decide (v1 = (-1)))
    (px_run (px_mk (kX12_knows X)) 129 ([some (.ref 67), some (.int (v1)), none, none, none], [], (hp M J R c e nL xs D)))
    (px_bd (X 177 [.ref 67] (hp M J R c e nL xs D))
    (fun v G1 => px_p (kX12_knows X) 38 5 ([some (.ref 67), some (.int (v1)), none, none, none], px_psh v [], G1))) := (px_run_eq _ _ _).trans rfl
set_option maxRecDepth 40000 in
theorem eX12_knows_129 (X : px_X) (M : Nat → Nat → Int32) (J : Nat → Nat → Int64) (R : Nat → Nat → Option Nat) (c e : Nat) (nL : Nat) (xs : Nat → Int32) (D : px_H) (o0 : Option Value) (o1 : Option Value) (o2 : Option Value) (o3 : Option Value) (o4 : Option Value) : px_run (px_mk (kX12_knows X)) 129 ([o0, o1, o2, o3, o4], [], (hp M J R c e nL xs D)) =
    some (none, (hp M J R c e nL xs D)) := (px_run_eq _ _ _).trans rfl
set_option maxRecDepth 40000 in
theorem eX12_knows_38_5 (X : px_X) (M : Nat → Nat → Int32) (J : Nat → Nat → Int64) (R : Nat → Nat → Option Nat) (c e : Nat) (nL : Nat) (xs : Nat → Int32) (D : px_H) (v1 : Int32) : px_p (kX12_knows X) 38 5 ([some (.ref 67), some (.int (v1)), none, none, none], [], (hp M J R c e nL xs D)) =
    px_run (px_mk (kX12_knows X)) 56 ([some (.ref 67), some (.int ((-1))), some (.int (M 67 12)), some (.int (0)), none], [], (hp M J R c e nL xs D)) := rfl
set_option maxRecDepth 40000 in
theorem eX12_knows_56 (X : px_X) (M : Nat → Nat → Int32) (J : Nat → Nat → Int64) (R : Nat → Nat → Option Nat) (c e : Nat) (nL : Nat) (xs : Nat → Int32) (D : px_H) (v1 : Int32) (v2 : Int32) (v3 : Int32) (o4 : Option Value) : px_run (px_mk (kX12_knows X)) 56 ([some (.ref 67), some (.int (v1)), some (.int (v2)), some (.int (v3)), o4], [], (hp M J R c e nL xs D)) =
    cond (decide (M 67 6 ≤ v3))
    (px_run (px_mk (kX12_knows X)) 114 ([some (.ref 67), some (.int (v1)), some (.int (v2)), some (.int (v3)), none], [], (hp M J R c e nL xs D)))
    (px_bd (X 174 [.ref 67, .int (v3)] (hp M J R c e nL xs D))
    (fun v G1 => px_p (kX12_knows X) 56 7 ([some (.ref 67), some (.int (v1)), some (.int (v2)), some (.int (v3)), none], px_psh v [], G1))) := (px_run_eq _ _ _).trans rfl
set_option maxRecDepth 40000 in
theorem eX12_knows_114 (X : px_X) (M : Nat → Nat → Int32) (J : Nat → Nat → Int64) (R : Nat → Nat → Option Nat) (c e : Nat) (nL : Nat) (xs : Nat → Int32) (D : px_H) (v1 : Int32) (o2 : Option Value) (o3 : Option Value) (o4 : Option Value) : px_run (px_mk (kX12_knows X)) 114 ([some (.ref 67), some (.int (v1)), o2, o3, o4], [], (hp M J R c e nL xs D)) =
    cond (decide (v1 = (-1)))
    (px_run (px_mk (kX12_knows X)) 126 ([some (.ref 67), some (.int (v1)), none, none, none], [], (hp M J R c e nL xs D)))
    (cond (px_inb (v1) 24 && true)
    (px_run (px_mk (kX12_knows X)) 126 ([some (.ref 67), some (.int (v1)), none, none, none], [], (hp (px_uR M 76 (upd (M 76) (Int32.toNatClampNeg (v1)) (1))) J R c e nL xs D))) none) := (px_run_eq _ _ _).trans rfl
set_option maxRecDepth 40000 in
theorem eX12_knows_56_7 (X : px_X) (M : Nat → Nat → Int32) (J : Nat → Nat → Int64) (R : Nat → Nat → Option Nat) (c e : Nat) (nL : Nat) (xs : Nat → Int32) (D : px_H) (v1 : Int32) (v2 : Int32) (v3 : Int32) (w0 : Int32) : px_p (kX12_knows X) 56 7 ([some (.ref 67), some (.int (v1)), some (.int (v2)), some (.int (v3)), none], [.int (w0)], (hp M J R c e nL xs D)) =
    cond (decide (0 ≤ w0))
    (px_run (px_mk (kX12_knows X)) 81 ([some (.ref 67), some (.int (v1)), some (.int (v2)), some (.int (v3)), none], [], (hp M J R c e nL xs D)))
    (px_bd (X 174 [.ref 67, .int (v3)] (hp M J R c e nL xs D))
    (fun v G1 => px_p (kX12_knows X) 56 11 ([some (.ref 67), some (.int (v1)), some (.int (v2)), some (.int (v3)), none], px_psh v [], G1))) := rfl
set_option maxRecDepth 40000 in
theorem eX12_knows_126 (X : px_X) (M : Nat → Nat → Int32) (J : Nat → Nat → Int64) (R : Nat → Nat → Option Nat) (c e : Nat) (nL : Nat) (xs : Nat → Int32) (D : px_H) (v1 : Int32) (o2 : Option Value) (o3 : Option Value) (o4 : Option Value) : px_run (px_mk (kX12_knows X)) 126 ([some (.ref 67), some (.int (v1)), o2, o3, o4], [], (hp M J R c e nL xs D)) =
    px_run (px_mk (kX12_knows X)) 38 ([some (.ref 67), some (.int (v1)), none, none, none], [], (hp M J R c e nL xs D)) := (px_run_eq _ _ _).trans rfl
set_option maxRecDepth 40000 in
theorem eX12_knows_81_3 (X : px_X) (st : px_S) : px_p (kX12_knows X) 81 3 st = px_run (px_mk (kX12_knows X)) 86 st := rfl
set_option maxRecDepth 40000 in
theorem eX12_knows_81 (X : px_X) (M : Nat → Nat → Int32) (J : Nat → Nat → Int64) (R : Nat → Nat → Option Nat) (c e : Nat) (nL : Nat) (xs : Nat → Int32) (D : px_H) (v1 : Int32) (v2 : Int32) (v3 : Int32) (o4 : Option Value) : px_run (px_mk (kX12_knows X)) 81 ([some (.ref 67), some (.int (v1)), some (.int (v2)), some (.int (v3)), o4], [], (hp M J R c e nL xs D)) =
    px_bd (X 174 [.ref 67, .int (v3)] (hp M J R c e nL xs D))
    (fun v G1 => px_p (kX12_knows X) 81 3 ([some (.ref 67), some (.int (v1)), some (.int (v2)), some (.int (v3)), none], px_psh v [], G1)) := (px_run_eq _ _ _).trans rfl
set_option maxRecDepth 40000 in
theorem eX12_knows_56_11 (X : px_X) (M : Nat → Nat → Int32) (J : Nat → Nat → Int64) (R : Nat → Nat → Option Nat) (c e : Nat) (nL : Nat) (xs : Nat → Int32) (D : px_H) (v1 : Int32) (v2 : Int32) (v3 : Int32) (w0 : Int32) : px_p (kX12_knows X) 56 11 ([some (.ref 67), some (.int (v1)), some (.int (v2)), some (.int (v3)), none], [.int (w0)], (hp M J R c e nL xs D)) =
    px_run (px_mk (kX12_knows X)) 86 ([some (.ref 67), some (.int (v1)), some (.int (v2)), some (.int (v3)), none], [.int ((-w0))], (hp M J R c e nL xs D)) := rfl
set_option maxRecDepth 40000 in
theorem eX12_knows_86 (X : px_X) (M : Nat → Nat → Int32) (J : Nat → Nat → Int64) (R : Nat → Nat → Option Nat) (c e : Nat) (nL : Nat) (xs : Nat → Int32) (D : px_H) (v1 : Int32) (v2 : Int32) (v3 : Int32) (o4 : Option Value) (w0 : Int32) : px_run (px_mk (kX12_knows X)) 86 ([some (.ref 67), some (.int (v1)), some (.int (v2)), some (.int (v3)), o4], [.int (w0)], (hp M J R c e nL xs D)) =
    cond (px_inb (v3) 24)
    (cond (decide (¬ ((M 76) (Int32.toNatClampNeg (v3))) = 0))
    (px_run (px_mk (kX12_knows X)) 108 ([some (.ref 67), some (.int (v1)), some (.int (v2)), some (.int (v3)), some (.int (w0))], [], (hp M J R c e nL xs D)))
    (cond (decide (w0 ≤ v2))
    (px_run (px_mk (kX12_knows X)) 108 ([some (.ref 67), some (.int (v1)), some (.int (v2)), some (.int (v3)), some (.int (w0))], [], (hp M J R c e nL xs D)))
    (px_run (px_mk (kX12_knows X)) 108 ([some (.ref 67), some (.int (v3)), some (.int (w0)), some (.int (v3)), some (.int (w0))], [], (hp M J R c e nL xs D))))) none := (px_run_eq _ _ _).trans rfl
set_option maxRecDepth 40000 in
theorem eX12_knows_108 (X : px_X) (M : Nat → Nat → Int32) (J : Nat → Nat → Int64) (R : Nat → Nat → Option Nat) (c e : Nat) (nL : Nat) (xs : Nat → Int32) (D : px_H) (v1 : Int32) (v2 : Int32) (v3 : Int32) (o4 : Option Value) : px_run (px_mk (kX12_knows X)) 108 ([some (.ref 67), some (.int (v1)), some (.int (v2)), some (.int (v3)), o4], [], (hp M J R c e nL xs D)) =
    px_run (px_mk (kX12_knows X)) 56 ([some (.ref 67), some (.int (v1)), some (.int (v2)), some (.int ((v3 + 1))), none], [], (hp M J R c e nL xs D)) := (px_run_eq _ _ _).trans rfl
set_option maxRecDepth 40000 in
theorem eX12_fit_0 (X : px_X) (M : Nat → Nat → Int32) (J : Nat → Nat → Int64) (R : Nat → Nat → Option Nat) (c e : Nat) (nL : Nat) (xs : Nat → Int32) (D : px_H) (v1 : Int32) (v2 : Int32) : px_run (px_mk (kX12_fit X)) 0 ([some (.ref 67), some (.int (v1)), some (.int (v2))], [], (hp M J R c e nL xs D)) =
    px_bd (X 166 [.ref 67, .int (v1)] (hp M J R c e nL xs D))
    (fun v G1 => px_p (kX12_fit X) 0 3 ([some (.ref 67), some (.int (v1)), some (.int (v2))], px_psh v [], G1)) := (px_run_eq _ _ _).trans rfl
set_option maxRecDepth 40000 in
theorem eX12_fit_0_3 (X : px_X) (M : Nat → Nat → Int32) (J : Nat → Nat → Int64) (R : Nat → Nat → Option Nat) (c e : Nat) (nL : Nat) (xs : Nat → Int32) (D : px_H) (v1 : Int32) (v2 : Int32) (w0 : Int32) : px_p (kX12_fit X) 0 3 ([some (.ref 67), some (.int (v1)), some (.int (v2))], [.int (w0)], (hp M J R c e nL xs D)) =
    cond (decide (w0 = 0))
    (px_run (px_mk (kX12_fit X)) 17 ([some (.ref 67), some (.int (v1)), some (.int (v2))], [], (hp M J R c e nL xs D)))
    (px_bd (X 165 [.int (v2), .int (0), .int (1)] (hp M J R c e nL xs D))
    (fun v G1 => px_p (kX12_fit X) 0 8 ([some (.ref 67), some (.int (v1)), some (.int (v2))], px_psh v [], G1))) := rfl
set_option maxRecDepth 40000 in
theorem eX12_fit_17 (X : px_X) (M : Nat → Nat → Int32) (J : Nat → Nat → Int64) (R : Nat → Nat → Option Nat) (c e : Nat) (nL : Nat) (xs : Nat → Int32) (D : px_H) (o0 : Option Value) (o1 : Option Value) (o2 : Option Value) : px_run (px_mk (kX12_fit X)) 17 ([o0, o1, o2], [], (hp M J R c e nL xs D)) =
    some (some (.long ((-4611686018427387904))), (hp M J R c e nL xs D)) := (px_run_eq _ _ _).trans rfl
set_option maxRecDepth 40000 in
theorem eX12_fit_0_8 (X : px_X) (M : Nat → Nat → Int32) (J : Nat → Nat → Int64) (R : Nat → Nat → Option Nat) (c e : Nat) (nL : Nat) (xs : Nat → Int32) (D : px_H) (v1 : Int32) (v2 : Int32) (w0 : Int32) : px_p (kX12_fit X) 0 8 ([some (.ref 67), some (.int (v1)), some (.int (v2))], [.int (w0)], (hp M J R c e nL xs D)) =
    cond (decide (¬ w0 = 0))
    (px_run (px_mk (kX12_fit X)) 21 ([some (.ref 67), some (.int (v1)), some (.int (v2))], [], (hp M J R c e nL xs D)))
    (px_run (px_mk (kX12_fit X)) 17 ([some (.ref 67), some (.int (v1)), some (.int (v2))], [], (hp M J R c e nL xs D))) := rfl
set_option maxRecDepth 40000 in
theorem eX12_fit_21 (X : px_X) (M : Nat → Nat → Int32) (J : Nat → Nat → Int64) (R : Nat → Nat → Option Nat) (c e : Nat) (nL : Nat) (xs : Nat → Int32) (D : px_H) (v1 : Int32) (v2 : Int32) : px_run (px_mk (kX12_fit X)) 21 ([some (.ref 67), some (.int (v1)), some (.int (v2))], [], (hp M J R c e nL xs D)) =
    px_bd (X 178 [.ref 67] (hp M J R c e nL xs D))
    (fun v G1 => px_p (kX12_fit X) 21 2 ([some (.ref 67), some (.int (v1)), some (.int (v2))], px_psh v [], G1)) := (px_run_eq _ _ _).trans rfl
set_option maxRecDepth 40000 in
theorem eX12_fit_21_2 (X : px_X) (M : Nat → Nat → Int32) (J : Nat → Nat → Int64) (R : Nat → Nat → Option Nat) (c e : Nat) (nL : Nat) (xs : Nat → Int32) (D : px_H) (v1 : Int32) (v2 : Int32) : px_p (kX12_fit X) 21 2 ([some (.ref 67), some (.int (v1)), some (.int (v2))], [], (hp M J R c e nL xs D)) =
    cond (decide (¬ v2 = 0))
    (px_run (px_mk (kX12_fit X)) 39 ([some (.ref 67), some (.int (v1)), some (.int (v2))], [], (hp M J R c e nL xs D)))
    (cond (px_inb (v1) 8)
    (px_run (px_mk (kX12_fit X)) 46 ([some (.ref 67), some (.int (v1)), some (.int (v2))], [.long ((Int32.toInt64 ((M 70) (Int32.toNatClampNeg (v1)))))], (hp M J R c e nL xs D))) none) := rfl
set_option maxRecDepth 40000 in
theorem eX12_fit_39 (X : px_X) (M : Nat → Nat → Int32) (J : Nat → Nat → Int64) (R : Nat → Nat → Option Nat) (c e : Nat) (nL : Nat) (xs : Nat → Int32) (D : px_H) (v1 : Int32) (o2 : Option Value) : px_run (px_mk (kX12_fit X)) 39 ([some (.ref 67), some (.int (v1)), o2], [], (hp M J R c e nL xs D)) =
    cond (px_inb (v1) 8)
    (px_run (px_mk (kX12_fit X)) 46 ([some (.ref 67), some (.int (v1)), none], [.long ((Int32.toInt64 ((M 71) (Int32.toNatClampNeg (v1)))))], (hp M J R c e nL xs D))) none := (px_run_eq _ _ _).trans rfl
set_option maxRecDepth 40000 in
theorem eX12_fit_46 (X : px_X) (M : Nat → Nat → Int32) (J : Nat → Nat → Int64) (R : Nat → Nat → Option Nat) (c e : Nat) (nL : Nat) (xs : Nat → Int32) (D : px_H) (o0 : Option Value) (o1 : Option Value) (o2 : Option Value) (w0 : Int64) : px_run (px_mk (kX12_fit X)) 46 ([o0, o1, o2], [.long (w0)], (hp M J R c e nL xs D)) =
    some (some (.long (w0)), (hp M J R c e nL xs D)) := (px_run_eq _ _ _).trans rfl
set_option maxRecDepth 40000 in
theorem eX12_tapeTold_0 (X : px_X) (M : Nat → Nat → Int32) (J : Nat → Nat → Int64) (R : Nat → Nat → Option Nat) (c e : Nat) (nL : Nat) (xs : Nat → Int32) (D : px_H) (v1 : Int32) (v2 : Int32) : px_run (px_mk (kX12_tapeTold X)) 0 ([some (.ref 67), some (.int (v1)), some (.int (v2))], [], (hp M J R c e nL xs D)) =
    px_bd (X 165 [.int (v1), .int (0), .int ((M 67 6 - 1))] (hp M J R c e nL xs D))
    (fun v G1 => px_p (kX12_tapeTold X) 0 7 ([some (.ref 67), some (.int (v1)), some (.int (v2))], px_psh v [], G1)) := (px_run_eq _ _ _).trans rfl
set_option maxRecDepth 40000 in
theorem eX12_tapeTold_0_7 (X : px_X) (M : Nat → Nat → Int32) (J : Nat → Nat → Int64) (R : Nat → Nat → Option Nat) (c e : Nat) (nL : Nat) (xs : Nat → Int32) (D : px_H) (v1 : Int32) (v2 : Int32) (w0 : Int32) : px_p (kX12_tapeTold X) 0 7 ([some (.ref 67), some (.int (v1)), some (.int (v2))], [.int (w0)], (hp M J R c e nL xs D)) =
    cond (decide (w0 = 0))
    (px_run (px_mk (kX12_tapeTold X)) 23 ([some (.ref 67), some (.int (v1)), some (.int (v2))], [], (hp M J R c e nL xs D)))
    (px_bd (X 165 [.int (v2), .int (0), .int (4)] (hp M J R c e nL xs D))
    (fun v G1 => px_p (kX12_tapeTold X) 0 12 ([some (.ref 67), some (.int (v1)), some (.int (v2))], px_psh v [], G1))) := rfl
set_option maxRecDepth 40000 in
theorem eX12_tapeTold_23 (X : px_X) (M : Nat → Nat → Int32) (J : Nat → Nat → Int64) (R : Nat → Nat → Option Nat) (c e : Nat) (nL : Nat) (xs : Nat → Int32) (D : px_H) (o0 : Option Value) (o1 : Option Value) (o2 : Option Value) : px_run (px_mk (kX12_tapeTold X)) 23 ([o0, o1, o2], [], (hp M J R c e nL xs D)) =
    some (some (.long ((-4611686018427387904))), (hp M J R c e nL xs D)) := (px_run_eq _ _ _).trans rfl
set_option maxRecDepth 40000 in
theorem eX12_tapeTold_0_12 (X : px_X) (M : Nat → Nat → Int32) (J : Nat → Nat → Int64) (R : Nat → Nat → Option Nat) (c e : Nat) (nL : Nat) (xs : Nat → Int32) (D : px_H) (v1 : Int32) (v2 : Int32) (w0 : Int32) : px_p (kX12_tapeTold X) 0 12 ([some (.ref 67), some (.int (v1)), some (.int (v2))], [.int (w0)], (hp M J R c e nL xs D)) =
    cond (decide (¬ w0 = 0))
    (px_run (px_mk (kX12_tapeTold X)) 27 ([some (.ref 67), some (.int (v1)), some (.int (v2))], [], (hp M J R c e nL xs D)))
    (px_run (px_mk (kX12_tapeTold X)) 23 ([some (.ref 67), some (.int (v1)), some (.int (v2))], [], (hp M J R c e nL xs D))) := rfl
set_option maxRecDepth 40000 in
theorem eX12_tapeTold_27 (X : px_X) (M : Nat → Nat → Int32) (J : Nat → Nat → Int64) (R : Nat → Nat → Option Nat) (c e : Nat) (nL : Nat) (xs : Nat → Int32) (D : px_H) (v1 : Int32) (v2 : Int32) : px_run (px_mk (kX12_tapeTold X)) 27 ([some (.ref 67), some (.int (v1)), some (.int (v2))], [], (hp M J R c e nL xs D)) =
    px_bd (X 178 [.ref 67] (hp M J R c e nL xs D))
    (fun v G1 => px_p (kX12_tapeTold X) 27 2 ([some (.ref 67), some (.int (v1)), some (.int (v2))], px_psh v [], G1)) := (px_run_eq _ _ _).trans rfl
set_option maxRecDepth 40000 in
theorem eX12_tapeTold_27_2 (X : px_X) (M : Nat → Nat → Int32) (J : Nat → Nat → Int64) (R : Nat → Nat → Option Nat) (c e : Nat) (nL : Nat) (xs : Nat → Int32) (D : px_H) (v1 : Int32) (v2 : Int32) : px_p (kX12_tapeTold X) 27 2 ([some (.ref 67), some (.int (v1)), some (.int (v2))], [], (hp M J R c e nL xs D)) =
    cond (decide (v2 = 0))
    (px_run (px_mk (kX12_tapeTold X)) 64 ([some (.ref 67), some (.int (v1)), some (.int (v2))], [], (hp M J R c e nL xs D)))
    (cond (decide (v2 = 1))
    (px_run (px_mk (kX12_tapeTold X)) 72 ([some (.ref 67), some (.int (v1)), some (.int (v2))], [], (hp M J R c e nL xs D)))
    (cond (decide (v2 = 2))
    (px_run (px_mk (kX12_tapeTold X)) 80 ([some (.ref 67), some (.int (v1)), some (.int (v2))], [], (hp M J R c e nL xs D)))
    (cond (decide (v2 = 3))
    (px_run (px_mk (kX12_tapeTold X)) 88 ([some (.ref 67), some (.int (v1)), some (.int (v2))], [], (hp M J R c e nL xs D)))
    (px_run (px_mk (kX12_tapeTold X)) 103 ([some (.ref 67), some (.int (v1)), some (.int (v2))], [], (hp M J R c e nL xs D)))))) := rfl
set_option maxRecDepth 40000 in
theorem eX12_tapeTold_103 (X : px_X) (M : Nat → Nat → Int32) (J : Nat → Nat → Int64) (R : Nat → Nat → Option Nat) (c e : Nat) (nL : Nat) (xs : Nat → Int32) (D : px_H) (v1 : Int32) (o2 : Option Value) : px_run (px_mk (kX12_tapeTold X)) 103 ([some (.ref 67), some (.int (v1)), o2], [], (hp M J R c e nL xs D)) =
    px_bd (X 174 [.ref 67, .int (v1)] (hp M J R c e nL xs D))
    (fun v G1 => px_p (kX12_tapeTold X) 103 3 ([some (.ref 67), some (.int (v1)), none], px_psh v [], G1)) := (px_run_eq _ _ _).trans rfl
set_option maxRecDepth 40000 in
theorem eX12_tapeTold_88 (X : px_X) (M : Nat → Nat → Int32) (J : Nat → Nat → Int64) (R : Nat → Nat → Option Nat) (c e : Nat) (nL : Nat) (xs : Nat → Int32) (D : px_H) (v1 : Int32) (o2 : Option Value) : px_run (px_mk (kX12_tapeTold X)) 88 ([some (.ref 67), some (.int (v1)), o2], [], (hp M J R c e nL xs D)) =
    cond (px_inb (v1) 24)
    (cond (decide (((M 76) (Int32.toNatClampNeg (v1))) = 0))
    (px_run (px_mk (kX12_tapeTold X)) 101 ([some (.ref 67), some (.int (v1)), none], [], (hp M J R c e nL xs D)))
    (px_run (px_mk (kX12_tapeTold X)) 102 ([some (.ref 67), some (.int (v1)), none], [.long (1)], (hp M J R c e nL xs D)))) none := (px_run_eq _ _ _).trans rfl
set_option maxRecDepth 40000 in
theorem eX12_tapeTold_80 (X : px_X) (M : Nat → Nat → Int32) (J : Nat → Nat → Int64) (R : Nat → Nat → Option Nat) (c e : Nat) (nL : Nat) (xs : Nat → Int32) (D : px_H) (v1 : Int32) (o2 : Option Value) : px_run (px_mk (kX12_tapeTold X)) 80 ([some (.ref 67), some (.int (v1)), o2], [], (hp M J R c e nL xs D)) =
    cond (px_inb (v1) 24)
    (some (some (.long ((Int32.toInt64 ((M 75) (Int32.toNatClampNeg (v1)))))), (hp M J R c e nL xs D))) none := (px_run_eq _ _ _).trans rfl
set_option maxRecDepth 40000 in
theorem eX12_tapeTold_72 (X : px_X) (M : Nat → Nat → Int32) (J : Nat → Nat → Int64) (R : Nat → Nat → Option Nat) (c e : Nat) (nL : Nat) (xs : Nat → Int32) (D : px_H) (v1 : Int32) (o2 : Option Value) : px_run (px_mk (kX12_tapeTold X)) 72 ([some (.ref 67), some (.int (v1)), o2], [], (hp M J R c e nL xs D)) =
    cond (px_inb (v1) 24)
    (some (some (.long ((Int32.toInt64 ((M 74) (Int32.toNatClampNeg (v1)))))), (hp M J R c e nL xs D))) none := (px_run_eq _ _ _).trans rfl
set_option maxRecDepth 40000 in
theorem eX12_tapeTold_64 (X : px_X) (M : Nat → Nat → Int32) (J : Nat → Nat → Int64) (R : Nat → Nat → Option Nat) (c e : Nat) (nL : Nat) (xs : Nat → Int32) (D : px_H) (v1 : Int32) (o2 : Option Value) : px_run (px_mk (kX12_tapeTold X)) 64 ([some (.ref 67), some (.int (v1)), o2], [], (hp M J R c e nL xs D)) =
    cond (px_inb (v1) 24)
    (some (some (.long ((Int32.toInt64 ((M 73) (Int32.toNatClampNeg (v1)))))), (hp M J R c e nL xs D))) none := (px_run_eq _ _ _).trans rfl
set_option maxRecDepth 40000 in
theorem eX12_tapeTold_103_3 (X : px_X) (M : Nat → Nat → Int32) (J : Nat → Nat → Int64) (R : Nat → Nat → Option Nat) (c e : Nat) (nL : Nat) (xs : Nat → Int32) (D : px_H) (v1 : Int32) (w0 : Int32) : px_p (kX12_tapeTold X) 103 3 ([some (.ref 67), some (.int (v1)), none], [.int (w0)], (hp M J R c e nL xs D)) =
    some (some (.long ((Int32.toInt64 w0))), (hp M J R c e nL xs D)) := rfl
set_option maxRecDepth 40000 in
theorem eX12_tapeTold_101 (X : px_X) (M : Nat → Nat → Int32) (J : Nat → Nat → Int64) (R : Nat → Nat → Option Nat) (c e : Nat) (nL : Nat) (xs : Nat → Int32) (D : px_H) (o0 : Option Value) (o1 : Option Value) (o2 : Option Value) : px_run (px_mk (kX12_tapeTold X)) 101 ([o0, o1, o2], [], (hp M J R c e nL xs D)) =
    px_run (px_mk (kX12_tapeTold X)) 102 ([none, none, none], [.long (0)], (hp M J R c e nL xs D)) := (px_run_eq _ _ _).trans rfl
set_option maxRecDepth 40000 in
theorem eX12_tapeTold_102 (X : px_X) (M : Nat → Nat → Int32) (J : Nat → Nat → Int64) (R : Nat → Nat → Option Nat) (c e : Nat) (nL : Nat) (xs : Nat → Int32) (D : px_H) (o0 : Option Value) (o1 : Option Value) (o2 : Option Value) (w0 : Int64) : px_run (px_mk (kX12_tapeTold X)) 102 ([o0, o1, o2], [.long (w0)], (hp M J R c e nL xs D)) =
    some (some (.long (w0)), (hp M J R c e nL xs D)) := (px_run_eq _ _ _).trans rfl
set_option maxRecDepth 40000 in
theorem eX12_sum_0 (X : px_X) (M : Nat → Nat → Int32) (J : Nat → Nat → Int64) (R : Nat → Nat → Option Nat) (c e : Nat) (nL : Nat) (xs : Nat → Int32) (D : px_H)  : px_run (px_mk (kX12_sum X)) 0 ([some (.ref 67), none, none, none, none, none], [], (hp M J R c e nL xs D)) =
    px_bd (X 178 [.ref 67] (hp M J R c e nL xs D))
    (fun v G1 => px_p (kX12_sum X) 0 2 ([some (.ref 67), none, none, none, none, none], px_psh v [], G1)) := (px_run_eq _ _ _).trans rfl
set_option maxRecDepth 40000 in
theorem eX12_sum_0_2 (X : px_X) (M : Nat → Nat → Int32) (J : Nat → Nat → Int64) (R : Nat → Nat → Option Nat) (c e : Nat) (nL : Nat) (xs : Nat → Int32) (D : px_H)  : px_p (kX12_sum X) 0 2 ([some (.ref 67), none, none, none, none, none], [], (hp M J R c e nL xs D)) =
    px_run (px_mk (kX12_sum X)) 8 ([some (.ref 67), some (.long (0)), none, some (.int (0)), none, none], [], (hp M J R c e nL xs D)) := rfl
set_option maxRecDepth 40000 in
theorem eX12_sum_8 (X : px_X) (M : Nat → Nat → Int32) (J : Nat → Nat → Int64) (R : Nat → Nat → Option Nat) (c e : Nat) (nL : Nat) (xs : Nat → Int32) (D : px_H) (v1 : Int64) (v3 : Int32) (o4 : Option Value) (o5 : Option Value) : px_run (px_mk (kX12_sum X)) 8 ([some (.ref 67), some (.long (v1)), none, some (.int (v3)), o4, o5], [], (hp M J R c e nL xs D)) =
    cond (decide (M 67 6 ≤ v3))
    (px_run (px_mk (kX12_sum X)) 51 ([some (.ref 67), some (.long (v1)), none, some (.int (v3)), none, none], [], (hp M J R c e nL xs D)))
    (cond (px_inb (v3) 24)
    (cond (decide (((M 76) (Int32.toNatClampNeg (v3))) = 0))
    (px_run (px_mk (kX12_sum X)) 29 ([some (.ref 67), some (.long (v1)), none, some (.int (v3)), none, none], [], (hp M J R c e nL xs D)))
    (px_run (px_mk (kX12_sum X)) 35 ([some (.ref 67), some (.long (v1)), none, some (.int (v3)), none, none], [.long (0)], (hp M J R c e nL xs D)))) none) := (px_run_eq _ _ _).trans rfl
set_option maxRecDepth 40000 in
theorem eX12_sum_51 (X : px_X) (M : Nat → Nat → Int32) (J : Nat → Nat → Int64) (R : Nat → Nat → Option Nat) (c e : Nat) (nL : Nat) (xs : Nat → Int32) (D : px_H) (o0 : Option Value) (v1 : Int64) (o3 : Option Value) (o4 : Option Value) (o5 : Option Value) : px_run (px_mk (kX12_sum X)) 51 ([o0, some (.long (v1)), none, o3, o4, o5], [], (hp M J R c e nL xs D)) =
    some (some (.long (v1)), (hp M J R c e nL xs D)) := (px_run_eq _ _ _).trans rfl
set_option maxRecDepth 40000 in
theorem eX12_sum_29 (X : px_X) (M : Nat → Nat → Int32) (J : Nat → Nat → Int64) (R : Nat → Nat → Option Nat) (c e : Nat) (nL : Nat) (xs : Nat → Int32) (D : px_H) (v1 : Int64) (v3 : Int32) (o4 : Option Value) (o5 : Option Value) : px_run (px_mk (kX12_sum X)) 29 ([some (.ref 67), some (.long (v1)), none, some (.int (v3)), o4, o5], [], (hp M J R c e nL xs D)) =
    px_bd (X 174 [.ref 67, .int (v3)] (hp M J R c e nL xs D))
    (fun v G1 => px_p (kX12_sum X) 29 3 ([some (.ref 67), some (.long (v1)), none, some (.int (v3)), none, none], px_psh v [], G1)) := (px_run_eq _ _ _).trans rfl
set_option maxRecDepth 40000 in
theorem eX12_sum_35 (X : px_X) (M : Nat → Nat → Int32) (J : Nat → Nat → Int64) (R : Nat → Nat → Option Nat) (c e : Nat) (nL : Nat) (xs : Nat → Int32) (D : px_H) (v1 : Int64) (v3 : Int32) (o4 : Option Value) (o5 : Option Value) (w0 : Int64) : px_run (px_mk (kX12_sum X)) 35 ([some (.ref 67), some (.long (v1)), none, some (.int (v3)), o4, o5], [.long (w0)], (hp M J R c e nL xs D)) =
    px_run (px_mk (kX12_sum X)) 8 ([some (.ref 67), some (.long ((v1 + (w0 * w0)))), none, some (.int ((v3 + 1))), some (.long (w0)), none], [], (hp M J R c e nL xs D)) := (px_run_eq _ _ _).trans rfl
set_option maxRecDepth 40000 in
theorem eX12_sum_29_3 (X : px_X) (M : Nat → Nat → Int32) (J : Nat → Nat → Int64) (R : Nat → Nat → Option Nat) (c e : Nat) (nL : Nat) (xs : Nat → Int32) (D : px_H) (v1 : Int64) (v3 : Int32) (w0 : Int32) : px_p (kX12_sum X) 29 3 ([some (.ref 67), some (.long (v1)), none, some (.int (v3)), none, none], [.int (w0)], (hp M J R c e nL xs D)) =
    px_run (px_mk (kX12_sum X)) 35 ([some (.ref 67), some (.long (v1)), none, some (.int (v3)), none, none], [.long ((Int32.toInt64 w0))], (hp M J R c e nL xs D)) := rfl
set_option maxRecDepth 40000 in
theorem eX12_find_0 (X : px_X) (M : Nat → Nat → Int32) (J : Nat → Nat → Int64) (R : Nat → Nat → Option Nat) (c e : Nat) (nL : Nat) (xs : Nat → Int32) (D : px_H) (v1 : Int32) (v2 : Int32) (v3 : Int32) (v4 : Int32) : px_run (px_mk (kX12_find X)) 0 ([some (.ref 67), some (.int (v1)), some (.int (v2)), some (.int (v3)), some (.int (v4))], [], (hp M J R c e nL xs D)) =
    px_bd (X 165 [.int (v1), .int (0), .int (5)] (hp M J R c e nL xs D))
    (fun v G1 => px_p (kX12_find X) 0 4 ([some (.ref 67), some (.int (v1)), some (.int (v2)), some (.int (v3)), some (.int (v4))], px_psh v [], G1)) := (px_run_eq _ _ _).trans rfl
set_option maxRecDepth 40000 in
theorem eX12_find_0_4 (X : px_X) (M : Nat → Nat → Int32) (J : Nat → Nat → Int64) (R : Nat → Nat → Option Nat) (c e : Nat) (nL : Nat) (xs : Nat → Int32) (D : px_H) (v1 : Int32) (v2 : Int32) (v3 : Int32) (v4 : Int32) (w0 : Int32) : px_p (kX12_find X) 0 4 ([some (.ref 67), some (.int (v1)), some (.int (v2)), some (.int (v3)), some (.int (v4))], [.int (w0)], (hp M J R c e nL xs D)) =
    cond (decide (w0 = 0))
    (px_run (px_mk (kX12_find X)) 39 ([some (.ref 67), some (.int (v1)), some (.int (v2)), some (.int (v3)), some (.int (v4))], [], (hp M J R c e nL xs D)))
    (px_bd (X 165 [.int (v2), .int (0), .int (99)] (hp M J R c e nL xs D))
    (fun v G1 => px_p (kX12_find X) 0 9 ([some (.ref 67), some (.int (v1)), some (.int (v2)), some (.int (v3)), some (.int (v4))], px_psh v [], G1))) := rfl
set_option maxRecDepth 40000 in
theorem eX12_find_39 (X : px_X) (M : Nat → Nat → Int32) (J : Nat → Nat → Int64) (R : Nat → Nat → Option Nat) (c e : Nat) (nL : Nat) (xs : Nat → Int32) (D : px_H) (o0 : Option Value) (o1 : Option Value) (o2 : Option Value) (o3 : Option Value) (o4 : Option Value) : px_run (px_mk (kX12_find X)) 39 ([o0, o1, o2, o3, o4], [], (hp M J R c e nL xs D)) =
    some (some (.int ((-2))), (hp M J R c e nL xs D)) := (px_run_eq _ _ _).trans rfl
set_option maxRecDepth 40000 in
theorem eX12_find_0_9 (X : px_X) (M : Nat → Nat → Int32) (J : Nat → Nat → Int64) (R : Nat → Nat → Option Nat) (c e : Nat) (nL : Nat) (xs : Nat → Int32) (D : px_H) (v1 : Int32) (v2 : Int32) (v3 : Int32) (v4 : Int32) (w0 : Int32) : px_p (kX12_find X) 0 9 ([some (.ref 67), some (.int (v1)), some (.int (v2)), some (.int (v3)), some (.int (v4))], [.int (w0)], (hp M J R c e nL xs D)) =
    cond (decide (w0 = 0))
    (px_run (px_mk (kX12_find X)) 39 ([some (.ref 67), some (.int (v1)), some (.int (v2)), some (.int (v3)), some (.int (v4))], [], (hp M J R c e nL xs D)))
    (px_bd (X 165 [.int (v3), .int (0), .int (3)] (hp M J R c e nL xs D))
    (fun v G1 => px_p (kX12_find X) 0 14 ([some (.ref 67), some (.int (v1)), some (.int (v2)), some (.int (v3)), some (.int (v4))], px_psh v [], G1))) := rfl
set_option maxRecDepth 40000 in
theorem eX12_find_0_14 (X : px_X) (M : Nat → Nat → Int32) (J : Nat → Nat → Int64) (R : Nat → Nat → Option Nat) (c e : Nat) (nL : Nat) (xs : Nat → Int32) (D : px_H) (v1 : Int32) (v2 : Int32) (v3 : Int32) (v4 : Int32) (w0 : Int32) : px_p (kX12_find X) 0 14 ([some (.ref 67), some (.int (v1)), some (.int (v2)), some (.int (v3)), some (.int (v4))], [.int (w0)], (hp M J R c e nL xs D)) =
    cond (decide (w0 = 0))
    (px_run (px_mk (kX12_find X)) 39 ([some (.ref 67), some (.int (v1)), some (.int (v2)), some (.int (v3)), some (.int (v4))], [], (hp M J R c e nL xs D)))
    (px_bd (X 165 [.int (v4), .int (1), .int (9)] (hp M J R c e nL xs D))
    (fun v G1 => px_p (kX12_find X) 0 19 ([some (.ref 67), some (.int (v1)), some (.int (v2)), some (.int (v3)), some (.int (v4))], px_psh v [], G1))) := rfl
set_option maxRecDepth 40000 in
theorem eX12_find_0_19 (X : px_X) (M : Nat → Nat → Int32) (J : Nat → Nat → Int64) (R : Nat → Nat → Option Nat) (c e : Nat) (nL : Nat) (xs : Nat → Int32) (D : px_H) (v1 : Int32) (v2 : Int32) (v3 : Int32) (v4 : Int32) (w0 : Int32) : px_p (kX12_find X) 0 19 ([some (.ref 67), some (.int (v1)), some (.int (v2)), some (.int (v3)), some (.int (v4))], [.int (w0)], (hp M J R c e nL xs D)) =
    cond (decide (¬ w0 = 0))
    (px_run (px_mk (kX12_find X)) 42 ([some (.ref 67), some (.int (v1)), some (.int (v2)), some (.int (v3)), some (.int (v4))], [], (hp M J R c e nL xs D)))
    (px_run (px_mk (kX12_find X)) 39 ([some (.ref 67), some (.int (v1)), some (.int (v2)), some (.int (v3)), some (.int (v4))], [], (hp M J R c e nL xs D))) := rfl
set_option maxRecDepth 40000 in
theorem eX12_find_42 (X : px_X) (M : Nat → Nat → Int32) (J : Nat → Nat → Int64) (R : Nat → Nat → Option Nat) (c e : Nat) (nL : Nat) (xs : Nat → Int32) (D : px_H) (v1 : Int32) (v2 : Int32) (v3 : Int32) (v4 : Int32) : px_run (px_mk (kX12_find X)) 42 ([some (.ref 67), some (.int (v1)), some (.int (v2)), some (.int (v3)), some (.int (v4))], [], (hp M J R c e nL xs D)) =
    cond (decide (¬ M 67 13 = 20))
    (px_run (px_mk (kX12_find X)) 54 ([some (.ref 67), some (.int (v1)), some (.int (v2)), some (.int (v3)), some (.int (v4))], [], (hp M J R c e nL xs D)))
    (some (some (.int ((-4))), (hp M J R c e nL xs D))) := (px_run_eq _ _ _).trans rfl
set_option maxRecDepth 40000 in
theorem eX12_find_54 (X : px_X) (M : Nat → Nat → Int32) (J : Nat → Nat → Int64) (R : Nat → Nat → Option Nat) (c e : Nat) (nL : Nat) (xs : Nat → Int32) (D : px_H) (v1 : Int32) (v2 : Int32) (v3 : Int32) (v4 : Int32) : px_run (px_mk (kX12_find X)) 54 ([some (.ref 67), some (.int (v1)), some (.int (v2)), some (.int (v3)), some (.int (v4))], [], (hp M J R c e nL xs D)) =
    cond (px_inb (M 67 13) 20)
    (cond (px_inb (M 67 13) 20)
    (cond (px_inb (M 67 13) 20)
    (cond (px_inb (M 67 13) 20)
    (cond (px_inb (M 67 13) 20)
    (some (some (.int (((M 67 13 + 1) - 1))), (hp (px_uR (px_uR (px_uR (px_uR (px_uR (px_uR M 77 (upd (M 77) (Int32.toNatClampNeg (M 67 13)) (v1))) 78 (upd (M 78) (Int32.toNatClampNeg (M 67 13)) (v2))) 79 (upd (M 79) (Int32.toNatClampNeg (M 67 13)) (v3))) 80 (upd (M 80) (Int32.toNatClampNeg (M 67 13)) (v4))) 83 (upd (M 83) (Int32.toNatClampNeg (M 67 13)) ((-1)))) 67 (upd (M 67) 13 ((M 67 13 + 1)))) J R c e nL xs D))) none) none) none) none) none := (px_run_eq _ _ _).trans rfl
set_option maxRecDepth 40000 in
theorem eX12_isTimber_0 (X : px_X) (M : Nat → Nat → Int32) (J : Nat → Nat → Int64) (R : Nat → Nat → Option Nat) (c e : Nat) (nL : Nat) (xs : Nat → Int32) (D : px_H) (v1 : Int32) : px_run (px_mk (kX12_isTimber X)) 0 ([some (.ref 67), some (.int (v1))], [], (hp M J R c e nL xs D)) =
    px_bd (X 167 [.ref 67, .int (v1)] (hp M J R c e nL xs D))
    (fun v G1 => px_p (kX12_isTimber X) 0 3 ([some (.ref 67), some (.int (v1))], px_psh v [], G1)) := (px_run_eq _ _ _).trans rfl
set_option maxRecDepth 40000 in
theorem eX12_isTimber_0_3 (X : px_X) (M : Nat → Nat → Int32) (J : Nat → Nat → Int64) (R : Nat → Nat → Option Nat) (c e : Nat) (nL : Nat) (xs : Nat → Int32) (D : px_H) (v1 : Int32) (w0 : Int32) : px_p (kX12_isTimber X) 0 3 ([some (.ref 67), some (.int (v1))], [.int (w0)], (hp M J R c e nL xs D)) =
    cond (decide (w0 = 0))
    (px_run (px_mk (kX12_isTimber X)) 22 ([some (.ref 67), some (.int (v1))], [], (hp M J R c e nL xs D)))
    (cond (px_inb (v1) 20)
    (cond (decide (¬ ((M 77) (Int32.toNatClampNeg (v1))) = 1))
    (px_run (px_mk (kX12_isTimber X)) 22 ([some (.ref 67), some (.int (v1))], [], (hp M J R c e nL xs D)))
    (px_run (px_mk (kX12_isTimber X)) 23 ([some (.ref 67), some (.int (v1))], [.int (1)], (hp M J R c e nL xs D)))) none) := rfl
set_option maxRecDepth 40000 in
theorem eX12_isTimber_22 (X : px_X) (M : Nat → Nat → Int32) (J : Nat → Nat → Int64) (R : Nat → Nat → Option Nat) (c e : Nat) (nL : Nat) (xs : Nat → Int32) (D : px_H) (o0 : Option Value) (o1 : Option Value) : px_run (px_mk (kX12_isTimber X)) 22 ([o0, o1], [], (hp M J R c e nL xs D)) =
    px_run (px_mk (kX12_isTimber X)) 23 ([none, none], [.int (0)], (hp M J R c e nL xs D)) := (px_run_eq _ _ _).trans rfl
set_option maxRecDepth 40000 in
theorem eX12_isTimber_23 (X : px_X) (M : Nat → Nat → Int32) (J : Nat → Nat → Int64) (R : Nat → Nat → Option Nat) (c e : Nat) (nL : Nat) (xs : Nat → Int32) (D : px_H) (o0 : Option Value) (o1 : Option Value) (w0 : Int32) : px_run (px_mk (kX12_isTimber X)) 23 ([o0, o1], [.int (w0)], (hp M J R c e nL xs D)) =
    cond (decide (w0 = 0) || decide (w0 = 1)) (some (some (.int (w0)), (hp M J R c e nL xs D))) none := (px_run_eq _ _ _).trans rfl
set_option maxRecDepth 40000 in
theorem eX12_hole_0 (X : px_X) (M : Nat → Nat → Int32) (J : Nat → Nat → Int64) (R : Nat → Nat → Option Nat) (c e : Nat) (nL : Nat) (xs : Nat → Int32) (D : px_H) (v1 : Int32) (v2 : Int32) : px_run (px_mk (kX12_hole X)) 0 ([some (.ref 67), some (.int (v1)), some (.int (v2)), none, none], [], (hp M J R c e nL xs D)) =
    px_bd (X 183 [.ref 67, .int (v1)] (hp M J R c e nL xs D))
    (fun v G1 => px_p (kX12_hole X) 0 3 ([some (.ref 67), some (.int (v1)), some (.int (v2)), none, none], px_psh v [], G1)) := (px_run_eq _ _ _).trans rfl
set_option maxRecDepth 40000 in
theorem eX12_hole_0_3 (X : px_X) (M : Nat → Nat → Int32) (J : Nat → Nat → Int64) (R : Nat → Nat → Option Nat) (c e : Nat) (nL : Nat) (xs : Nat → Int32) (D : px_H) (v1 : Int32) (v2 : Int32) (w0 : Int32) : px_p (kX12_hole X) 0 3 ([some (.ref 67), some (.int (v1)), some (.int (v2)), none, none], [.int (w0)], (hp M J R c e nL xs D)) =
    cond (decide (w0 = 0))
    (px_run (px_mk (kX12_hole X)) 18 ([some (.ref 67), some (.int (v1)), some (.int (v2)), none, none], [], (hp M J R c e nL xs D)))
    (px_bd (X 165 [.int (v2), .int (0), .int (99)] (hp M J R c e nL xs D))
    (fun v G1 => px_p (kX12_hole X) 0 8 ([some (.ref 67), some (.int (v1)), some (.int (v2)), none, none], px_psh v [], G1))) := rfl
set_option maxRecDepth 40000 in
theorem eX12_hole_18 (X : px_X) (M : Nat → Nat → Int32) (J : Nat → Nat → Int64) (R : Nat → Nat → Option Nat) (c e : Nat) (nL : Nat) (xs : Nat → Int32) (D : px_H) (o0 : Option Value) (o1 : Option Value) (o2 : Option Value) (o3 : Option Value) (o4 : Option Value) : px_run (px_mk (kX12_hole X)) 18 ([o0, o1, o2, o3, o4], [], (hp M J R c e nL xs D)) =
    some (some (.int ((-2))), (hp M J R c e nL xs D)) := (px_run_eq _ _ _).trans rfl
set_option maxRecDepth 40000 in
theorem eX12_hole_0_8 (X : px_X) (M : Nat → Nat → Int32) (J : Nat → Nat → Int64) (R : Nat → Nat → Option Nat) (c e : Nat) (nL : Nat) (xs : Nat → Int32) (D : px_H) (v1 : Int32) (v2 : Int32) (w0 : Int32) : px_p (kX12_hole X) 0 8 ([some (.ref 67), some (.int (v1)), some (.int (v2)), none, none], [.int (w0)], (hp M J R c e nL xs D)) =
    cond (decide (¬ w0 = 0))
    (px_run (px_mk (kX12_hole X)) 21 ([some (.ref 67), some (.int (v1)), some (.int (v2)), none, none], [], (hp M J R c e nL xs D)))
    (px_run (px_mk (kX12_hole X)) 18 ([some (.ref 67), some (.int (v1)), some (.int (v2)), none, none], [], (hp M J R c e nL xs D))) := rfl
set_option maxRecDepth 40000 in
theorem eX12_hole_21 (X : px_X) (M : Nat → Nat → Int32) (J : Nat → Nat → Int64) (R : Nat → Nat → Option Nat) (c e : Nat) (nL : Nat) (xs : Nat → Int32) (D : px_H) (v1 : Int32) (v2 : Int32) (o3 : Option Value) (o4 : Option Value) : px_run (px_mk (kX12_hole X)) 21 ([some (.ref 67), some (.int (v1)), some (.int (v2)), o3, o4], [], (hp M J R c e nL xs D)) =
    px_run (px_mk (kX12_hole X)) 29 ([some (.ref 67), some (.int (v1)), some (.int (v2)), some (.int ((8 * v1))), some (.int ((8 * v1)))], [], (hp M J R c e nL xs D)) := (px_run_eq _ _ _).trans rfl
set_option maxRecDepth 40000 in
theorem eX12_hole_29 (X : px_X) (M : Nat → Nat → Int32) (J : Nat → Nat → Int64) (R : Nat → Nat → Option Nat) (c e : Nat) (nL : Nat) (xs : Nat → Int32) (D : px_H) (v1 : Int32) (v2 : Int32) (v3 : Int32) (v4 : Int32) : px_run (px_mk (kX12_hole X)) 29 ([some (.ref 67), some (.int (v1)), some (.int (v2)), some (.int (v3)), some (.int (v4))], [], (hp M J R c e nL xs D)) =
    cond (px_inb (v1) 20)
    (cond (decide ((v3 + ((M 81) (Int32.toNatClampNeg (v1)))) ≤ v4))
    (px_run (px_mk (kX12_hole X)) 62 ([some (.ref 67), some (.int (v1)), some (.int (v2)), some (.int (v3)), some (.int (v4))], [], (hp M J R c e nL xs D)))
    (cond (px_inb (v4) 160)
    (cond (decide (¬ ((M 82) (Int32.toNatClampNeg (v4))) = v2))
    (px_run (px_mk (kX12_hole X)) 56 ([some (.ref 67), some (.int (v1)), some (.int (v2)), some (.int (v3)), some (.int (v4))], [], (hp M J R c e nL xs D)))
    (some (some (.int ((-3))), (hp M J R c e nL xs D)))) none)) none := (px_run_eq _ _ _).trans rfl
set_option maxRecDepth 40000 in
theorem eX12_hole_62 (X : px_X) (M : Nat → Nat → Int32) (J : Nat → Nat → Int64) (R : Nat → Nat → Option Nat) (c e : Nat) (nL : Nat) (xs : Nat → Int32) (D : px_H) (v1 : Int32) (v2 : Int32) (v3 : Int32) (o4 : Option Value) : px_run (px_mk (kX12_hole X)) 62 ([some (.ref 67), some (.int (v1)), some (.int (v2)), some (.int (v3)), o4], [], (hp M J R c e nL xs D)) =
    cond (px_inb (v1) 20)
    (cond (decide (¬ ((M 81) (Int32.toNatClampNeg (v1))) = 8))
    (px_run (px_mk (kX12_hole X)) 76 ([some (.ref 67), some (.int (v1)), some (.int (v2)), some (.int (v3)), none], [], (hp M J R c e nL xs D)))
    (some (some (.int ((-4))), (hp M J R c e nL xs D)))) none := (px_run_eq _ _ _).trans rfl
set_option maxRecDepth 40000 in
theorem eX12_hole_56 (X : px_X) (M : Nat → Nat → Int32) (J : Nat → Nat → Int64) (R : Nat → Nat → Option Nat) (c e : Nat) (nL : Nat) (xs : Nat → Int32) (D : px_H) (v1 : Int32) (v2 : Int32) (v3 : Int32) (v4 : Int32) : px_run (px_mk (kX12_hole X)) 56 ([some (.ref 67), some (.int (v1)), some (.int (v2)), some (.int (v3)), some (.int (v4))], [], (hp M J R c e nL xs D)) =
    px_run (px_mk (kX12_hole X)) 29 ([some (.ref 67), some (.int (v1)), some (.int (v2)), some (.int (v3)), some (.int ((v4 + 1)))], [], (hp M J R c e nL xs D)) := (px_run_eq _ _ _).trans rfl
set_option maxRecDepth 40000 in
theorem eX12_hole_76 (X : px_X) (M : Nat → Nat → Int32) (J : Nat → Nat → Int64) (R : Nat → Nat → Option Nat) (c e : Nat) (nL : Nat) (xs : Nat → Int32) (D : px_H) (v1 : Int32) (v2 : Int32) (v3 : Int32) (o4 : Option Value) : px_run (px_mk (kX12_hole X)) 76 ([some (.ref 67), some (.int (v1)), some (.int (v2)), some (.int (v3)), o4], [], (hp M J R c e nL xs D)) =
    cond (px_inb (v1) 20)
    (cond (px_inb ((v3 + ((M 81) (Int32.toNatClampNeg (v1))))) 160)
    (cond (px_inb (v1) 20)
    (cond (px_inb (v1) 20)
    (cond (px_inb (v1) 20)
    (some (some (.int (((upd (M 81) (Int32.toNatClampNeg (v1)) ((((M 81) (Int32.toNatClampNeg (v1))) + 1))) (Int32.toNatClampNeg (v1))))), (hp (px_uR (px_uR M 82 (upd (M 82) (Int32.toNatClampNeg ((v3 + ((M 81) (Int32.toNatClampNeg (v1)))))) (v2))) 81 (upd (M 81) (Int32.toNatClampNeg (v1)) ((((M 81) (Int32.toNatClampNeg (v1))) + 1)))) J R c e nL xs D))) none) none) none) none) none := (px_run_eq _ _ _).trans rfl
set_option maxRecDepth 40000 in
theorem eX12_weeks_0 (X : px_X) (M : Nat → Nat → Int32) (J : Nat → Nat → Int64) (R : Nat → Nat → Option Nat) (c e : Nat) (nL : Nat) (xs : Nat → Int32) (D : px_H) (v1 : Int32) : px_run (px_mk (kX12_weeks X)) 0 ([some (.ref 67), some (.int (v1))], [], (hp M J R c e nL xs D)) =
    cond (px_inb (v1) 20)
    (cond (decide (((M 77) (Int32.toNatClampNeg (v1))) = 0))
    (px_run (px_mk (kX12_weeks X)) 40 ([some (.ref 67), some (.int (v1))], [], (hp M J R c e nL xs D)))
    (cond (decide (((M 77) (Int32.toNatClampNeg (v1))) = 1))
    (px_run (px_mk (kX12_weeks X)) 49 ([some (.ref 67), some (.int (v1))], [], (hp M J R c e nL xs D)))
    (cond (decide (((M 77) (Int32.toNatClampNeg (v1))) = 2))
    (px_run (px_mk (kX12_weeks X)) 59 ([some (.ref 67), some (.int (v1))], [], (hp M J R c e nL xs D)))
    (cond (decide (((M 77) (Int32.toNatClampNeg (v1))) = 3))
    (px_run (px_mk (kX12_weeks X)) 69 ([some (.ref 67), some (.int (v1))], [], (hp M J R c e nL xs D)))
    (cond (decide (((M 77) (Int32.toNatClampNeg (v1))) = 4))
    (px_run (px_mk (kX12_weeks X)) 78 ([some (.ref 67), some (.int (v1))], [], (hp M J R c e nL xs D)))
    (px_run (px_mk (kX12_weeks X)) 88 ([some (.ref 67), some (.int (v1))], [], (hp M J R c e nL xs D)))))))) none := (px_run_eq _ _ _).trans rfl
set_option maxRecDepth 40000 in
theorem eX12_weeks_88 (X : px_X) (M : Nat → Nat → Int32) (J : Nat → Nat → Int64) (R : Nat → Nat → Option Nat) (c e : Nat) (nL : Nat) (xs : Nat → Int32) (D : px_H) (v1 : Int32) : px_run (px_mk (kX12_weeks X)) 88 ([some (.ref 67), some (.int (v1))], [], (hp M J R c e nL xs D)) =
    cond (px_inb (v1) 20)
    (some (some (.int (((M 80) (Int32.toNatClampNeg (v1))))), (hp M J R c e nL xs D))) none := (px_run_eq _ _ _).trans rfl
set_option maxRecDepth 40000 in
theorem eX12_weeks_78 (X : px_X) (M : Nat → Nat → Int32) (J : Nat → Nat → Int64) (R : Nat → Nat → Option Nat) (c e : Nat) (nL : Nat) (xs : Nat → Int32) (D : px_H) (v1 : Int32) : px_run (px_mk (kX12_weeks X)) 78 ([some (.ref 67), some (.int (v1))], [], (hp M J R c e nL xs D)) =
    cond (px_inb (v1) 20)
    (some (some (.int ((10 * ((M 80) (Int32.toNatClampNeg (v1)))))), (hp M J R c e nL xs D))) none := (px_run_eq _ _ _).trans rfl
set_option maxRecDepth 40000 in
theorem eX12_weeks_69 (X : px_X) (M : Nat → Nat → Int32) (J : Nat → Nat → Int64) (R : Nat → Nat → Option Nat) (c e : Nat) (nL : Nat) (xs : Nat → Int32) (D : px_H) (v1 : Int32) : px_run (px_mk (kX12_weeks X)) 69 ([some (.ref 67), some (.int (v1))], [], (hp M J R c e nL xs D)) =
    cond (px_inb (v1) 20)
    (some (some (.int ((2 * ((M 80) (Int32.toNatClampNeg (v1)))))), (hp M J R c e nL xs D))) none := (px_run_eq _ _ _).trans rfl
set_option maxRecDepth 40000 in
theorem eX12_weeks_59 (X : px_X) (M : Nat → Nat → Int32) (J : Nat → Nat → Int64) (R : Nat → Nat → Option Nat) (c e : Nat) (nL : Nat) (xs : Nat → Int32) (D : px_H) (v1 : Int32) : px_run (px_mk (kX12_weeks X)) 59 ([some (.ref 67), some (.int (v1))], [], (hp M J R c e nL xs D)) =
    cond (px_inb (v1) 20)
    (some (some (.int ((6 * ((M 80) (Int32.toNatClampNeg (v1)))))), (hp M J R c e nL xs D))) none := (px_run_eq _ _ _).trans rfl
set_option maxRecDepth 40000 in
theorem eX12_weeks_49 (X : px_X) (M : Nat → Nat → Int32) (J : Nat → Nat → Int64) (R : Nat → Nat → Option Nat) (c e : Nat) (nL : Nat) (xs : Nat → Int32) (D : px_H) (v1 : Int32) : px_run (px_mk (kX12_weeks X)) 49 ([some (.ref 67), some (.int (v1))], [], (hp M J R c e nL xs D)) =
    cond (px_inb (v1) 20)
    (some (some (.int ((8 * ((M 80) (Int32.toNatClampNeg (v1)))))), (hp M J R c e nL xs D))) none := (px_run_eq _ _ _).trans rfl
set_option maxRecDepth 40000 in
theorem eX12_weeks_40 (X : px_X) (M : Nat → Nat → Int32) (J : Nat → Nat → Int64) (R : Nat → Nat → Option Nat) (c e : Nat) (nL : Nat) (xs : Nat → Int32) (D : px_H) (v1 : Int32) : px_run (px_mk (kX12_weeks X)) 40 ([some (.ref 67), some (.int (v1))], [], (hp M J R c e nL xs D)) =
    cond (px_inb (v1) 20)
    (some (some (.int ((4 * ((M 80) (Int32.toNatClampNeg (v1)))))), (hp M J R c e nL xs D))) none := (px_run_eq _ _ _).trans rfl
set_option maxRecDepth 40000 in
theorem eX12_findTold_0 (X : px_X) (M : Nat → Nat → Int32) (J : Nat → Nat → Int64) (R : Nat → Nat → Option Nat) (c e : Nat) (nL : Nat) (xs : Nat → Int32) (D : px_H) (v1 : Int32) (v2 : Int32) : px_run (px_mk (kX12_findTold X)) 0 ([some (.ref 67), some (.int (v1)), some (.int (v2)), none], [], (hp M J R c e nL xs D)) =
    px_bd (X 167 [.ref 67, .int (v1)] (hp M J R c e nL xs D))
    (fun v G1 => px_p (kX12_findTold X) 0 3 ([some (.ref 67), some (.int (v1)), some (.int (v2)), none], px_psh v [], G1)) := (px_run_eq _ _ _).trans rfl
set_option maxRecDepth 40000 in
theorem eX12_findTold_0_3 (X : px_X) (M : Nat → Nat → Int32) (J : Nat → Nat → Int64) (R : Nat → Nat → Option Nat) (c e : Nat) (nL : Nat) (xs : Nat → Int32) (D : px_H) (v1 : Int32) (v2 : Int32) (w0 : Int32) : px_p (kX12_findTold X) 0 3 ([some (.ref 67), some (.int (v1)), some (.int (v2)), none], [.int (w0)], (hp M J R c e nL xs D)) =
    cond (decide (w0 = 0))
    (px_run (px_mk (kX12_findTold X)) 18 ([some (.ref 67), some (.int (v1)), some (.int (v2)), none], [], (hp M J R c e nL xs D)))
    (px_bd (X 165 [.int (v2), .int (0), .int (7)] (hp M J R c e nL xs D))
    (fun v G1 => px_p (kX12_findTold X) 0 8 ([some (.ref 67), some (.int (v1)), some (.int (v2)), none], px_psh v [], G1))) := rfl
set_option maxRecDepth 40000 in
theorem eX12_findTold_18 (X : px_X) (M : Nat → Nat → Int32) (J : Nat → Nat → Int64) (R : Nat → Nat → Option Nat) (c e : Nat) (nL : Nat) (xs : Nat → Int32) (D : px_H) (o0 : Option Value) (o1 : Option Value) (o2 : Option Value) (o3 : Option Value) : px_run (px_mk (kX12_findTold X)) 18 ([o0, o1, o2, o3], [], (hp M J R c e nL xs D)) =
    some (some (.int ((-2))), (hp M J R c e nL xs D)) := (px_run_eq _ _ _).trans rfl
set_option maxRecDepth 40000 in
theorem eX12_findTold_0_8 (X : px_X) (M : Nat → Nat → Int32) (J : Nat → Nat → Int64) (R : Nat → Nat → Option Nat) (c e : Nat) (nL : Nat) (xs : Nat → Int32) (D : px_H) (v1 : Int32) (v2 : Int32) (w0 : Int32) : px_p (kX12_findTold X) 0 8 ([some (.ref 67), some (.int (v1)), some (.int (v2)), none], [.int (w0)], (hp M J R c e nL xs D)) =
    cond (decide (¬ w0 = 0))
    (px_run (px_mk (kX12_findTold X)) 21 ([some (.ref 67), some (.int (v1)), some (.int (v2)), none], [], (hp M J R c e nL xs D)))
    (px_run (px_mk (kX12_findTold X)) 18 ([some (.ref 67), some (.int (v1)), some (.int (v2)), none], [], (hp M J R c e nL xs D))) := rfl
set_option maxRecDepth 40000 in
theorem eX12_findTold_21 (X : px_X) (M : Nat → Nat → Int32) (J : Nat → Nat → Int64) (R : Nat → Nat → Option Nat) (c e : Nat) (nL : Nat) (xs : Nat → Int32) (D : px_H) (v1 : Int32) (v2 : Int32) (o3 : Option Value) : px_run (px_mk (kX12_findTold X)) 21 ([some (.ref 67), some (.int (v1)), some (.int (v2)), o3], [], (hp M J R c e nL xs D)) =
    cond (px_inb (v1) 20)
    (cond (decide (((M 83) (Int32.toNatClampNeg (v1))) < 0))
    (px_run (px_mk (kX12_findTold X)) 34 ([some (.ref 67), some (.int (v1)), some (.int (v2)), none], [], (hp M J R c e nL xs D)))
    (px_run (px_mk (kX12_findTold X)) 35 ([some (.ref 67), some (.int (v1)), some (.int (v2)), none], [.int (1)], (hp M J R c e nL xs D)))) none := (px_run_eq _ _ _).trans rfl
set_option maxRecDepth 40000 in
theorem eX12_findTold_34 (X : px_X) (M : Nat → Nat → Int32) (J : Nat → Nat → Int64) (R : Nat → Nat → Option Nat) (c e : Nat) (nL : Nat) (xs : Nat → Int32) (D : px_H) (v1 : Int32) (v2 : Int32) (o3 : Option Value) : px_run (px_mk (kX12_findTold X)) 34 ([some (.ref 67), some (.int (v1)), some (.int (v2)), o3], [], (hp M J R c e nL xs D)) =
    px_run (px_mk (kX12_findTold X)) 35 ([some (.ref 67), some (.int (v1)), some (.int (v2)), none], [.int (0)], (hp M J R c e nL xs D)) := (px_run_eq _ _ _).trans rfl
set_option maxRecDepth 40000 in
theorem eX12_findTold_35 (X : px_X) (M : Nat → Nat → Int32) (J : Nat → Nat → Int64) (R : Nat → Nat → Option Nat) (c e : Nat) (nL : Nat) (xs : Nat → Int32) (D : px_H) (v1 : Int32) (v2 : Int32) (o3 : Option Value) (w0 : Int32) : px_run (px_mk (kX12_findTold X)) 35 ([some (.ref 67), some (.int (v1)), some (.int (v2)), o3], [.int (w0)], (hp M J R c e nL xs D)) =
    cond (decide (v2 = 0))
    (px_run (px_mk (kX12_findTold X)) 80 ([some (.ref 67), some (.int (v1)), some (.int (v2)), some (.int (w0))], [], (hp M J R c e nL xs D)))
    (cond (decide (v2 = 1))
    (px_run (px_mk (kX12_findTold X)) 87 ([some (.ref 67), some (.int (v1)), some (.int (v2)), some (.int (w0))], [], (hp M J R c e nL xs D)))
    (cond (decide (v2 = 2))
    (px_run (px_mk (kX12_findTold X)) 94 ([some (.ref 67), some (.int (v1)), some (.int (v2)), some (.int (w0))], [], (hp M J R c e nL xs D)))
    (cond (decide (v2 = 3))
    (px_run (px_mk (kX12_findTold X)) 101 ([some (.ref 67), some (.int (v1)), some (.int (v2)), some (.int (w0))], [], (hp M J R c e nL xs D)))
    (cond (decide (v2 = 4))
    (px_run (px_mk (kX12_findTold X)) 108 ([some (.ref 67), some (.int (v1)), some (.int (v2)), some (.int (w0))], [], (hp M J R c e nL xs D)))
    (cond (decide (v2 = 5))
    (px_run (px_mk (kX12_findTold X)) 115 ([some (.ref 67), some (.int (v1)), some (.int (v2)), some (.int (w0))], [], (hp M J R c e nL xs D)))
    (cond (decide (v2 = 6))
    (px_run (px_mk (kX12_findTold X)) 130 ([some (.ref 67), some (.int (v1)), some (.int (v2)), some (.int (w0))], [], (hp M J R c e nL xs D)))
    (px_run (px_mk (kX12_findTold X)) 145 ([some (.ref 67), some (.int (v1)), some (.int (v2)), some (.int (w0))], [], (hp M J R c e nL xs D))))))))) := (px_run_eq _ _ _).trans rfl
set_option maxRecDepth 40000 in
theorem eX12_findTold_145 (X : px_X) (M : Nat → Nat → Int32) (J : Nat → Nat → Int64) (R : Nat → Nat → Option Nat) (c e : Nat) (nL : Nat) (xs : Nat → Int32) (D : px_H) (v1 : Int32) (o2 : Option Value) (v3 : Int32) : px_run (px_mk (kX12_findTold X)) 145 ([some (.ref 67), some (.int (v1)), o2, some (.int (v3))], [], (hp M J R c e nL xs D)) =
    cond (decide (v3 = 0))
    (px_run (px_mk (kX12_findTold X)) 167 ([some (.ref 67), some (.int (v1)), none, some (.int (v3))], [], (hp M J R c e nL xs D)))
    (cond (px_inb (v1) 20)
    (px_bd (X 185 [.ref 67, .int (v1)] (hp M J R c e nL xs D))
    (fun v G1 => px_p (kX12_findTold X) 145 10 ([some (.ref 67), some (.int (v1)), none, some (.int (v3))], px_psh v [.int (7), .int (((M 84) (Int32.toNatClampNeg (v1))))], G1))) none) := (px_run_eq _ _ _).trans rfl
set_option maxRecDepth 40000 in
theorem eX12_findTold_130 (X : px_X) (M : Nat → Nat → Int32) (J : Nat → Nat → Int64) (R : Nat → Nat → Option Nat) (c e : Nat) (nL : Nat) (xs : Nat → Int32) (D : px_H) (v1 : Int32) (o2 : Option Value) (v3 : Int32) : px_run (px_mk (kX12_findTold X)) 130 ([some (.ref 67), some (.int (v1)), o2, some (.int (v3))], [], (hp M J R c e nL xs D)) =
    cond (decide (v3 = 0))
    (px_run (px_mk (kX12_findTold X)) 143 ([some (.ref 67), some (.int (v1)), none, some (.int (v3))], [], (hp M J R c e nL xs D)))
    (cond (px_inb (v1) 20)
    (px_run (px_mk (kX12_findTold X)) 144 ([some (.ref 67), some (.int (v1)), none, some (.int (v3))], [.int (((M 84) (Int32.toNatClampNeg (v1))))], (hp M J R c e nL xs D))) none) := (px_run_eq _ _ _).trans rfl
set_option maxRecDepth 40000 in
theorem eX12_findTold_115 (X : px_X) (M : Nat → Nat → Int32) (J : Nat → Nat → Int64) (R : Nat → Nat → Option Nat) (c e : Nat) (nL : Nat) (xs : Nat → Int32) (D : px_H) (v1 : Int32) (o2 : Option Value) (v3 : Int32) : px_run (px_mk (kX12_findTold X)) 115 ([some (.ref 67), some (.int (v1)), o2, some (.int (v3))], [], (hp M J R c e nL xs D)) =
    cond (decide (v3 = 0))
    (px_run (px_mk (kX12_findTold X)) 128 ([some (.ref 67), some (.int (v1)), none, some (.int (v3))], [], (hp M J R c e nL xs D)))
    (cond (px_inb (v1) 20)
    (px_run (px_mk (kX12_findTold X)) 129 ([some (.ref 67), some (.int (v1)), none, some (.int (v3))], [.int (((M 83) (Int32.toNatClampNeg (v1))))], (hp M J R c e nL xs D))) none) := (px_run_eq _ _ _).trans rfl
set_option maxRecDepth 40000 in
theorem eX12_findTold_108 (X : px_X) (M : Nat → Nat → Int32) (J : Nat → Nat → Int64) (R : Nat → Nat → Option Nat) (c e : Nat) (nL : Nat) (xs : Nat → Int32) (D : px_H) (v1 : Int32) (o2 : Option Value) (o3 : Option Value) : px_run (px_mk (kX12_findTold X)) 108 ([some (.ref 67), some (.int (v1)), o2, o3], [], (hp M J R c e nL xs D)) =
    cond (px_inb (v1) 20)
    (some (some (.int (((M 81) (Int32.toNatClampNeg (v1))))), (hp M J R c e nL xs D))) none := (px_run_eq _ _ _).trans rfl
set_option maxRecDepth 40000 in
theorem eX12_findTold_101 (X : px_X) (M : Nat → Nat → Int32) (J : Nat → Nat → Int64) (R : Nat → Nat → Option Nat) (c e : Nat) (nL : Nat) (xs : Nat → Int32) (D : px_H) (v1 : Int32) (o2 : Option Value) (o3 : Option Value) : px_run (px_mk (kX12_findTold X)) 101 ([some (.ref 67), some (.int (v1)), o2, o3], [], (hp M J R c e nL xs D)) =
    cond (px_inb (v1) 20)
    (some (some (.int (((M 80) (Int32.toNatClampNeg (v1))))), (hp M J R c e nL xs D))) none := (px_run_eq _ _ _).trans rfl
set_option maxRecDepth 40000 in
theorem eX12_findTold_94 (X : px_X) (M : Nat → Nat → Int32) (J : Nat → Nat → Int64) (R : Nat → Nat → Option Nat) (c e : Nat) (nL : Nat) (xs : Nat → Int32) (D : px_H) (v1 : Int32) (o2 : Option Value) (o3 : Option Value) : px_run (px_mk (kX12_findTold X)) 94 ([some (.ref 67), some (.int (v1)), o2, o3], [], (hp M J R c e nL xs D)) =
    cond (px_inb (v1) 20)
    (some (some (.int (((M 79) (Int32.toNatClampNeg (v1))))), (hp M J R c e nL xs D))) none := (px_run_eq _ _ _).trans rfl
set_option maxRecDepth 40000 in
theorem eX12_findTold_87 (X : px_X) (M : Nat → Nat → Int32) (J : Nat → Nat → Int64) (R : Nat → Nat → Option Nat) (c e : Nat) (nL : Nat) (xs : Nat → Int32) (D : px_H) (v1 : Int32) (o2 : Option Value) (o3 : Option Value) : px_run (px_mk (kX12_findTold X)) 87 ([some (.ref 67), some (.int (v1)), o2, o3], [], (hp M J R c e nL xs D)) =
    cond (px_inb (v1) 20)
    (some (some (.int (((M 78) (Int32.toNatClampNeg (v1))))), (hp M J R c e nL xs D))) none := (px_run_eq _ _ _).trans rfl
set_option maxRecDepth 40000 in
theorem eX12_findTold_80 (X : px_X) (M : Nat → Nat → Int32) (J : Nat → Nat → Int64) (R : Nat → Nat → Option Nat) (c e : Nat) (nL : Nat) (xs : Nat → Int32) (D : px_H) (v1 : Int32) (o2 : Option Value) (o3 : Option Value) : px_run (px_mk (kX12_findTold X)) 80 ([some (.ref 67), some (.int (v1)), o2, o3], [], (hp M J R c e nL xs D)) =
    cond (px_inb (v1) 20)
    (some (some (.int (((M 77) (Int32.toNatClampNeg (v1))))), (hp M J R c e nL xs D))) none := (px_run_eq _ _ _).trans rfl
set_option maxRecDepth 40000 in
theorem eX12_findTold_167 (X : px_X) (M : Nat → Nat → Int32) (J : Nat → Nat → Int64) (R : Nat → Nat → Option Nat) (c e : Nat) (nL : Nat) (xs : Nat → Int32) (D : px_H) (o0 : Option Value) (o1 : Option Value) (o2 : Option Value) (o3 : Option Value) : px_run (px_mk (kX12_findTold X)) 167 ([o0, o1, o2, o3], [], (hp M J R c e nL xs D)) =
    px_run (px_mk (kX12_findTold X)) 168 ([none, none, none, none], [.int ((-1))], (hp M J R c e nL xs D)) := (px_run_eq _ _ _).trans rfl
set_option maxRecDepth 40000 in
theorem eX12_findTold_145_10 (X : px_X) (M : Nat → Nat → Int32) (J : Nat → Nat → Int64) (R : Nat → Nat → Option Nat) (c e : Nat) (nL : Nat) (xs : Nat → Int32) (D : px_H) (v1 : Int32) (v3 : Int32) (w0 : Int32) (w1 : Int32) (w2 : Int32) : px_p (kX12_findTold X) 145 10 ([some (.ref 67), some (.int (v1)), none, some (.int (v3))], [.int (w2), .int (w1), .int (w0)], (hp M J R c e nL xs D)) =
    px_run (px_mk (kX12_findTold X)) 168 ([some (.ref 67), some (.int (v1)), none, some (.int (v3))], [.int ((w0 + (w1 * w2)))], (hp M J R c e nL xs D)) := rfl
set_option maxRecDepth 40000 in
theorem eX12_findTold_143 (X : px_X) (M : Nat → Nat → Int32) (J : Nat → Nat → Int64) (R : Nat → Nat → Option Nat) (c e : Nat) (nL : Nat) (xs : Nat → Int32) (D : px_H) (o0 : Option Value) (o1 : Option Value) (o2 : Option Value) (o3 : Option Value) : px_run (px_mk (kX12_findTold X)) 143 ([o0, o1, o2, o3], [], (hp M J R c e nL xs D)) =
    px_run (px_mk (kX12_findTold X)) 144 ([none, none, none, none], [.int ((-1))], (hp M J R c e nL xs D)) := (px_run_eq _ _ _).trans rfl
set_option maxRecDepth 40000 in
theorem eX12_findTold_144 (X : px_X) (M : Nat → Nat → Int32) (J : Nat → Nat → Int64) (R : Nat → Nat → Option Nat) (c e : Nat) (nL : Nat) (xs : Nat → Int32) (D : px_H) (o0 : Option Value) (o1 : Option Value) (o2 : Option Value) (o3 : Option Value) (w0 : Int32) : px_run (px_mk (kX12_findTold X)) 144 ([o0, o1, o2, o3], [.int (w0)], (hp M J R c e nL xs D)) =
    some (some (.int (w0)), (hp M J R c e nL xs D)) := (px_run_eq _ _ _).trans rfl
set_option maxRecDepth 40000 in
theorem eX12_findTold_128 (X : px_X) (M : Nat → Nat → Int32) (J : Nat → Nat → Int64) (R : Nat → Nat → Option Nat) (c e : Nat) (nL : Nat) (xs : Nat → Int32) (D : px_H) (o0 : Option Value) (o1 : Option Value) (o2 : Option Value) (o3 : Option Value) : px_run (px_mk (kX12_findTold X)) 128 ([o0, o1, o2, o3], [], (hp M J R c e nL xs D)) =
    px_run (px_mk (kX12_findTold X)) 129 ([none, none, none, none], [.int ((-1))], (hp M J R c e nL xs D)) := (px_run_eq _ _ _).trans rfl
set_option maxRecDepth 40000 in
theorem eX12_findTold_129 (X : px_X) (M : Nat → Nat → Int32) (J : Nat → Nat → Int64) (R : Nat → Nat → Option Nat) (c e : Nat) (nL : Nat) (xs : Nat → Int32) (D : px_H) (o0 : Option Value) (o1 : Option Value) (o2 : Option Value) (o3 : Option Value) (w0 : Int32) : px_run (px_mk (kX12_findTold X)) 129 ([o0, o1, o2, o3], [.int (w0)], (hp M J R c e nL xs D)) =
    some (some (.int (w0)), (hp M J R c e nL xs D)) := (px_run_eq _ _ _).trans rfl
set_option maxRecDepth 40000 in
theorem eX12_findTold_168 (X : px_X) (M : Nat → Nat → Int32) (J : Nat → Nat → Int64) (R : Nat → Nat → Option Nat) (c e : Nat) (nL : Nat) (xs : Nat → Int32) (D : px_H) (o0 : Option Value) (o1 : Option Value) (o2 : Option Value) (o3 : Option Value) (w0 : Int32) : px_run (px_mk (kX12_findTold X)) 168 ([o0, o1, o2, o3], [.int (w0)], (hp M J R c e nL xs D)) =
    some (some (.int (w0)), (hp M J R c e nL xs D)) := (px_run_eq _ _ _).trans rfl
set_option maxRecDepth 40000 in
theorem eX12_tank_0 (X : px_X) (M : Nat → Nat → Int32) (J : Nat → Nat → Int64) (R : Nat → Nat → Option Nat) (c e : Nat) (nL : Nat) (xs : Nat → Int32) (D : px_H) (v1 : Int32) (v2 : Int32) : px_run (px_mk (kX12_tank X)) 0 ([some (.ref 67), some (.int (v1)), some (.int (v2))], [], (hp M J R c e nL xs D)) =
    px_bd (X 165 [.int (v1), .int (0), .int (5)] (hp M J R c e nL xs D))
    (fun v G1 => px_p (kX12_tank X) 0 4 ([some (.ref 67), some (.int (v1)), some (.int (v2))], px_psh v [], G1)) := (px_run_eq _ _ _).trans rfl
set_option maxRecDepth 40000 in
theorem eX12_tank_0_4 (X : px_X) (M : Nat → Nat → Int32) (J : Nat → Nat → Int64) (R : Nat → Nat → Option Nat) (c e : Nat) (nL : Nat) (xs : Nat → Int32) (D : px_H) (v1 : Int32) (v2 : Int32) (w0 : Int32) : px_p (kX12_tank X) 0 4 ([some (.ref 67), some (.int (v1)), some (.int (v2))], [.int (w0)], (hp M J R c e nL xs D)) =
    cond (decide (w0 = 0))
    (px_run (px_mk (kX12_tank X)) 19 ([some (.ref 67), some (.int (v1)), some (.int (v2))], [], (hp M J R c e nL xs D)))
    (px_bd (X 165 [.int (v2), .int (1), .int (40)] (hp M J R c e nL xs D))
    (fun v G1 => px_p (kX12_tank X) 0 9 ([some (.ref 67), some (.int (v1)), some (.int (v2))], px_psh v [], G1))) := rfl
set_option maxRecDepth 40000 in
theorem eX12_tank_19 (X : px_X) (M : Nat → Nat → Int32) (J : Nat → Nat → Int64) (R : Nat → Nat → Option Nat) (c e : Nat) (nL : Nat) (xs : Nat → Int32) (D : px_H) (o0 : Option Value) (o1 : Option Value) (o2 : Option Value) : px_run (px_mk (kX12_tank X)) 19 ([o0, o1, o2], [], (hp M J R c e nL xs D)) =
    some (some (.int ((-2))), (hp M J R c e nL xs D)) := (px_run_eq _ _ _).trans rfl
set_option maxRecDepth 40000 in
theorem eX12_tank_0_9 (X : px_X) (M : Nat → Nat → Int32) (J : Nat → Nat → Int64) (R : Nat → Nat → Option Nat) (c e : Nat) (nL : Nat) (xs : Nat → Int32) (D : px_H) (v1 : Int32) (v2 : Int32) (w0 : Int32) : px_p (kX12_tank X) 0 9 ([some (.ref 67), some (.int (v1)), some (.int (v2))], [.int (w0)], (hp M J R c e nL xs D)) =
    cond (decide (¬ w0 = 0))
    (px_run (px_mk (kX12_tank X)) 22 ([some (.ref 67), some (.int (v1)), some (.int (v2))], [], (hp M J R c e nL xs D)))
    (px_run (px_mk (kX12_tank X)) 19 ([some (.ref 67), some (.int (v1)), some (.int (v2))], [], (hp M J R c e nL xs D))) := rfl
set_option maxRecDepth 40000 in
theorem eX12_tank_22 (X : px_X) (M : Nat → Nat → Int32) (J : Nat → Nat → Int64) (R : Nat → Nat → Option Nat) (c e : Nat) (nL : Nat) (xs : Nat → Int32) (D : px_H) (v1 : Int32) (v2 : Int32) : px_run (px_mk (kX12_tank X)) 22 ([some (.ref 67), some (.int (v1)), some (.int (v2))], [], (hp M J R c e nL xs D)) =
    cond (decide (¬ M 67 22 = 6))
    (px_run (px_mk (kX12_tank X)) 34 ([some (.ref 67), some (.int (v1)), some (.int (v2))], [], (hp M J R c e nL xs D)))
    (some (some (.int ((-4))), (hp M J R c e nL xs D))) := (px_run_eq _ _ _).trans rfl
set_option maxRecDepth 40000 in
theorem eX12_tank_34 (X : px_X) (M : Nat → Nat → Int32) (J : Nat → Nat → Int64) (R : Nat → Nat → Option Nat) (c e : Nat) (nL : Nat) (xs : Nat → Int32) (D : px_H) (v1 : Int32) (v2 : Int32) : px_run (px_mk (kX12_tank X)) 34 ([some (.ref 67), some (.int (v1)), some (.int (v2))], [], (hp M J R c e nL xs D)) =
    cond (px_inb (M 67 22) 6)
    (cond (px_inb (M 67 22) 6)
    (some (some (.int (((M 67 22 + 1) - 1))), (hp (px_uR (px_uR (px_uR M 85 (upd (M 85) (Int32.toNatClampNeg (M 67 22)) (v1))) 86 (upd (M 86) (Int32.toNatClampNeg (M 67 22)) (v2))) 67 (upd (M 67) 22 ((M 67 22 + 1)))) J R c e nL xs D))) none) none := (px_run_eq _ _ _).trans rfl
