/-! trial -/
theorem eX12_in_0 (X : px_X) (M : Nat → Nat → Int32) (J : Nat → Nat → Int64) (R : Nat → Nat → Option Nat) (c e : Nat) (nL : Nat) (xs : Nat → Int32) (D : px_H) (v0 : Int32) (v1 : Int32) (v2 : Int32) : px_run (px_mk (kX12_in X)) 0 ([some (.int (v0)), some (.int (v1)), some (.int (v2))], [], (hp M J R c e nL xs D)) =
    cond (decide (v0 < v1))
    (px_run (px_mk (kX12_in X)) 14 ([some (.int (v0)), some (.int (v1)), some (.int (v2))], [], (hp M J R c e nL xs D)))
    (cond (decide (v2 < v0))
    (px_run (px_mk (kX12_in X)) 14 ([some (.int (v0)), some (.int (v1)), some (.int (v2))], [], (hp M J R c e nL xs D)))
    (px_run (px_mk (kX12_in X)) 15 ([some (.int (v0)), some (.int (v1)), some (.int (v2))], [.int (1)], (hp M J R c e nL xs D)))) := (px_run_eq _ _ _).trans rfl
theorem eX12_in_14 (X : px_X) (M : Nat → Nat → Int32) (J : Nat → Nat → Int64) (R : Nat → Nat → Option Nat) (c e : Nat) (nL : Nat) (xs : Nat → Int32) (D : px_H) (o0 : Option Value) (o1 : Option Value) (o2 : Option Value) : px_run (px_mk (kX12_in X)) 14 ([o0, o1, o2], [], (hp M J R c e nL xs D)) =
    px_run (px_mk (kX12_in X)) 15 ([none, none, none], [.int (0)], (hp M J R c e nL xs D)) := (px_run_eq _ _ _).trans rfl
theorem eX12_in_15 (X : px_X) (M : Nat → Nat → Int32) (J : Nat → Nat → Int64) (R : Nat → Nat → Option Nat) (c e : Nat) (nL : Nat) (xs : Nat → Int32) (D : px_H) (o0 : Option Value) (o1 : Option Value) (o2 : Option Value) (w0 : Int32) : px_run (px_mk (kX12_in X)) 15 ([o0, o1, o2], [.int (w0)], (hp M J R c e nL xs D)) =
    cond (decide (w0 = 0) || decide (w0 = 1)) (some (some (.int (w0)), (hp M J R c e nL xs D))) none := (px_run_eq _ _ _).trans rfl
theorem eX12_isMark_0 (X : px_X) (M : Nat → Nat → Int32) (J : Nat → Nat → Int64) (R : Nat → Nat → Option Nat) (c e : Nat) (nL : Nat) (xs : Nat → Int32) (D : px_H) (v1 : Int32) : px_run (px_mk (kX12_isMark X)) 0 ([some (.ref 67), some (.int (v1))], [], (hp M J R c e nL xs D)) =
    px_bd (X 165 [.int (v1), .int (0), .int ((M 67 0 - 1))] (hp M J R c e nL xs D))
    (fun v G1 => px_p (kX12_isMark X) 0 7 ([some (.ref 67), some (.int (v1))], px_psh v [], G1)) := (px_run_eq _ _ _).trans rfl
theorem eX12_isMark_0_7 (X : px_X) (M : Nat → Nat → Int32) (J : Nat → Nat → Int64) (R : Nat → Nat → Option Nat) (c e : Nat) (nL : Nat) (xs : Nat → Int32) (D : px_H) (o0 : Option Value) (o1 : Option Value) (w0 : Int32) : px_p (kX12_isMark X) 0 7 ([o0, o1], [.int (w0)], (hp M J R c e nL xs D)) =
    cond (decide (w0 = 0) || decide (w0 = 1)) (some (some (.int (w0)), (hp M J R c e nL xs D))) none := rfl
theorem eX12_mark_0 (X : px_X) (M : Nat → Nat → Int32) (J : Nat → Nat → Int64) (R : Nat → Nat → Option Nat) (c e : Nat) (nL : Nat) (xs : Nat → Int32) (D : px_H) (v1 : Int32) (v2 : Int32) (v3 : Int32) : px_run (px_mk (kX12_mark X)) 0 ([some (.ref 67), some (.int (v1)), some (.int (v2)), some (.int (v3))], [], (hp M J R c e nL xs D)) =
    px_bd (X 165 [.int (v1), .int ((-5000)), .int (5000)] (hp M J R c e nL xs D))
    (fun v G1 => px_p (kX12_mark X) 0 4 ([some (.ref 67), some (.int (v1)), some (.int (v2)), some (.int (v3))], px_psh v [], G1)) := (px_run_eq _ _ _).trans rfl
theorem eX12_mark_0_4 (X : px_X) (M : Nat → Nat → Int32) (J : Nat → Nat → Int64) (R : Nat → Nat → Option Nat) (c e : Nat) (nL : Nat) (xs : Nat → Int32) (D : px_H) (v1 : Int32) (v2 : Int32) (v3 : Int32) (w0 : Int32) : px_p (kX12_mark X) 0 4 ([some (.ref 67), some (.int (v1)), some (.int (v2)), some (.int (v3))], [.int (w0)], (hp M J R c e nL xs D)) =
    cond (decide (w0 = 0))
    (px_run (px_mk (kX12_mark X)) 26 ([some (.ref 67), some (.int (v1)), some (.int (v2)), some (.int (v3))], [], (hp M J R c e nL xs D)))
    (px_bd (X 165 [.int (v2), .int ((-5000)), .int (5000)] (hp M J R c e nL xs D))
    (fun v G1 => px_p (kX12_mark X) 0 9 ([some (.ref 67), some (.int (v1)), some (.int (v2)), some (.int (v3))], px_psh v [], G1))) := rfl
theorem eX12_mark_26 (X : px_X) (M : Nat → Nat → Int32) (J : Nat → Nat → Int64) (R : Nat → Nat → Option Nat) (c e : Nat) (nL : Nat) (xs : Nat → Int32) (D : px_H) (o0 : Option Value) (o1 : Option Value) (o2 : Option Value) (o3 : Option Value) : px_run (px_mk (kX12_mark X)) 26 ([o0, o1, o2, o3], [], (hp M J R c e nL xs D)) =
    some (some (.int ((-2))), (hp M J R c e nL xs D)) := (px_run_eq _ _ _).trans rfl
theorem eX12_mark_0_9 (X : px_X) (M : Nat → Nat → Int32) (J : Nat → Nat → Int64) (R : Nat → Nat → Option Nat) (c e : Nat) (nL : Nat) (xs : Nat → Int32) (D : px_H) (v1 : Int32) (v2 : Int32) (v3 : Int32) (w0 : Int32) : px_p (kX12_mark X) 0 9 ([some (.ref 67), some (.int (v1)), some (.int (v2)), some (.int (v3))], [.int (w0)], (hp M J R c e nL xs D)) =
    cond (decide (¬ w0 = 0))
    (px_run (px_mk (kX12_mark X)) 29 ([some (.ref 67), some (.int (v1)), some (.int (v2)), some (.int (v3))], [], (hp M J R c e nL xs D)))
    (px_run (px_mk (kX12_mark X)) 26 ([some (.ref 67), some (.int (v1)), some (.int (v2)), some (.int (v3))], [], (hp M J R c e nL xs D))) := rfl
theorem eX12_mark_29 (X : px_X) (M : Nat → Nat → Int32) (J : Nat → Nat → Int64) (R : Nat → Nat → Option Nat) (c e : Nat) (nL : Nat) (xs : Nat → Int32) (D : px_H) (v1 : Int32) (v2 : Int32) (v3 : Int32) : px_run (px_mk (kX12_mark X)) 29 ([some (.ref 67), some (.int (v1)), some (.int (v2)), some (.int (v3))], [], (hp M J R c e nL xs D)) =
    cond (decide (¬ M 67 0 = 8))
    (px_run (px_mk (kX12_mark X)) 41 ([some (.ref 67), some (.int (v1)), some (.int (v2)), some (.int (v3))], [], (hp M J R c e nL xs D)))
    (some (some (.int ((-4))), (hp M J R c e nL xs D))) := (px_run_eq _ _ _).trans rfl
theorem eX12_mark_41 (X : px_X) (M : Nat → Nat → Int32) (J : Nat → Nat → Int64) (R : Nat → Nat → Option Nat) (c e : Nat) (nL : Nat) (xs : Nat → Int32) (D : px_H) (v1 : Int32) (v2 : Int32) (v3 : Int32) : px_run (px_mk (kX12_mark X)) 41 ([some (.ref 67), some (.int (v1)), some (.int (v2)), some (.int (v3))], [], (hp M J R c e nL xs D)) =
    cond (px_inb (M 67 0) 8)
    (cond (px_inb (M 67 0) 8)
    (cond (px_inb (M 67 0) 8 && (decide (v3 = 0) || decide (v3 = 1)))
    (some (some (.int (((M 67 0 + 1) - 1))), (hp (px_uR (px_uR (px_uR (px_uR M 68 (upd (M 68) (Int32.toNatClampNeg (M 67 0)) (v1))) 69 (upd (M 69) (Int32.toNatClampNeg (M 67 0)) (v2))) 72 (upd (M 72) (Int32.toNatClampNeg (M 67 0)) (v3))) 67 (upd (upd (M 67) 0 ((M 67 0 + 1))) 11 (0))) J R c e nL xs D))) none) none) none := (px_run_eq _ _ _).trans rfl
theorem eX7_hasMark_0 (X : px_X) (M : Nat → Nat → Int32) (J : Nat → Nat → Int64) (R : Nat → Nat → Option Nat) (c e : Nat) (nL : Nat) (xs : Nat → Int32) (D : px_H) (v1 : Int32) : px_run (px_mk (kX7_hasMark X)) 0 ([some (.ref 14), some (.int (v1))], [], (hp M J R c e nL xs D)) =
    cond (decide (v1 < 0))
    (px_run (px_mk (kX7_hasMark X)) 16 ([some (.ref 14), some (.int (v1))], [], (hp M J R c e nL xs D)))
    (cond (decide (M 14 0 ≤ v1))
    (px_run (px_mk (kX7_hasMark X)) 16 ([some (.ref 14), some (.int (v1))], [], (hp M J R c e nL xs D)))
    (px_run (px_mk (kX7_hasMark X)) 17 ([some (.ref 14), some (.int (v1))], [.int (1)], (hp M J R c e nL xs D)))) := (px_run_eq _ _ _).trans rfl
theorem eX7_hasMark_16 (X : px_X) (M : Nat → Nat → Int32) (J : Nat → Nat → Int64) (R : Nat → Nat → Option Nat) (c e : Nat) (nL : Nat) (xs : Nat → Int32) (D : px_H) (o0 : Option Value) (o1 : Option Value) : px_run (px_mk (kX7_hasMark X)) 16 ([o0, o1], [], (hp M J R c e nL xs D)) =
    px_run (px_mk (kX7_hasMark X)) 17 ([none, none], [.int (0)], (hp M J R c e nL xs D)) := (px_run_eq _ _ _).trans rfl
theorem eX7_hasMark_17 (X : px_X) (M : Nat → Nat → Int32) (J : Nat → Nat → Int64) (R : Nat → Nat → Option Nat) (c e : Nat) (nL : Nat) (xs : Nat → Int32) (D : px_H) (o0 : Option Value) (o1 : Option Value) (w0 : Int32) : px_run (px_mk (kX7_hasMark X)) 17 ([o0, o1], [.int (w0)], (hp M J R c e nL xs D)) =
    cond (decide (w0 = 0) || decide (w0 = 1)) (some (some (.int (w0)), (hp M J R c e nL xs D))) none := (px_run_eq _ _ _).trans rfl
theorem eX7_addMark_0 (X : px_X) (M : Nat → Nat → Int32) (J : Nat → Nat → Int64) (R : Nat → Nat → Option Nat) (c e : Nat) (nL : Nat) (xs : Nat → Int32) (D : px_H) (v1 : Int32) (v2 : Int32) (v3 : Int32) : px_run (px_mk (kX7_addMark X)) 0 ([some (.ref 14), some (.int (v1)), some (.int (v2)), some (.int (v3))], [], (hp M J R c e nL xs D)) =
    cond (decide (v1 < (-5000)))
    (px_run (px_mk (kX7_addMark X)) 28 ([some (.ref 14), some (.int (v1)), some (.int (v2)), some (.int (v3))], [], (hp M J R c e nL xs D)))
    (cond (decide (5000 < v1))
    (px_run (px_mk (kX7_addMark X)) 28 ([some (.ref 14), some (.int (v1)), some (.int (v2)), some (.int (v3))], [], (hp M J R c e nL xs D)))
    (cond (decide (v2 < (-5000)))
    (px_run (px_mk (kX7_addMark X)) 28 ([some (.ref 14), some (.int (v1)), some (.int (v2)), some (.int (v3))], [], (hp M J R c e nL xs D)))
    (cond (decide (v2 ≤ 5000))
    (px_run (px_mk (kX7_addMark X)) 31 ([some (.ref 14), some (.int (v1)), some (.int (v2)), some (.int (v3))], [], (hp M J R c e nL xs D)))
    (px_run (px_mk (kX7_addMark X)) 28 ([some (.ref 14), some (.int (v1)), some (.int (v2)), some (.int (v3))], [], (hp M J R c e nL xs D)))))) := (px_run_eq _ _ _).trans rfl
theorem eX7_addMark_28 (X : px_X) (M : Nat → Nat → Int32) (J : Nat → Nat → Int64) (R : Nat → Nat → Option Nat) (c e : Nat) (nL : Nat) (xs : Nat → Int32) (D : px_H) (o0 : Option Value) (o1 : Option Value) (o2 : Option Value) (o3 : Option Value) : px_run (px_mk (kX7_addMark X)) 28 ([o0, o1, o2, o3], [], (hp M J R c e nL xs D)) =
    some (some (.int ((-2))), (hp M J R c e nL xs D)) := (px_run_eq _ _ _).trans rfl
theorem eX7_addMark_31 (X : px_X) (M : Nat → Nat → Int32) (J : Nat → Nat → Int64) (R : Nat → Nat → Option Nat) (c e : Nat) (nL : Nat) (xs : Nat → Int32) (D : px_H) (v1 : Int32) (v2 : Int32) (v3 : Int32) : px_run (px_mk (kX7_addMark X)) 31 ([some (.ref 14), some (.int (v1)), some (.int (v2)), some (.int (v3))], [], (hp M J R c e nL xs D)) =
    cond (decide (M 14 0 < 8))
    (px_run (px_mk (kX7_addMark X)) 43 ([some (.ref 14), some (.int (v1)), some (.int (v2)), some (.int (v3))], [], (hp M J R c e nL xs D)))
    (some (some (.int ((-4))), (hp M J R c e nL xs D))) := (px_run_eq _ _ _).trans rfl
theorem eX7_addMark_43 (X : px_X) (M : Nat → Nat → Int32) (J : Nat → Nat → Int64) (R : Nat → Nat → Option Nat) (c e : Nat) (nL : Nat) (xs : Nat → Int32) (D : px_H) (v1 : Int32) (v2 : Int32) (v3 : Int32) : px_run (px_mk (kX7_addMark X)) 43 ([some (.ref 14), some (.int (v1)), some (.int (v2)), some (.int (v3))], [], (hp M J R c e nL xs D)) =
    cond (px_inb (M 14 0) 8)
    (cond (px_inb (M 14 0) 8)
    (cond (px_inb (M 14 0) 8 && (decide (v3 = 0) || decide (v3 = 1)))
    (px_bd (X 83 [.ref 14] (hp (px_uR (px_uR (px_uR (px_uR M 15 (upd (M 15) (Int32.toNatClampNeg (M 14 0)) (v1))) 16 (upd (M 16) (Int32.toNatClampNeg (M 14 0)) (v2))) 17 (upd (M 17) (Int32.toNatClampNeg (M 14 0)) (v3))) 14 (upd (M 14) 0 ((M 14 0 + 1)))) J R c e nL xs D))
    (fun v G1 => px_p (kX7_addMark X) 43 26 ([some (.ref 14), some (.int (v1)), some (.int (v2)), some (.int (v3))], px_psh v [], G1))) none) none) none := (px_run_eq _ _ _).trans rfl
theorem eX7_addMark_43_26 (X : px_X) (M : Nat → Nat → Int32) (J : Nat → Nat → Int64) (R : Nat → Nat → Option Nat) (c e : Nat) (nL : Nat) (xs : Nat → Int32) (D : px_H) (o1 : Option Value) (o2 : Option Value) (o3 : Option Value) : px_p (kX7_addMark X) 43 26 ([some (.ref 14), o1, o2, o3], [], (hp M J R c e nL xs D)) =
    some (some (.int ((M 14 0 - 1))), (hp M J R c e nL xs D)) := rfl
theorem eX7_forgetRounds_0 (X : px_X) (M : Nat → Nat → Int32) (J : Nat → Nat → Int64) (R : Nat → Nat → Option Nat) (c e : Nat) (nL : Nat) (xs : Nat → Int32) (D : px_H) (o1 : Option Value) : px_run (px_mk (kX7_forgetRounds X)) 0 ([some (.ref 14), o1], [], (hp M J R c e nL xs D)) =
    px_run (px_mk (kX7_forgetRounds X)) 7 ([some (.ref 14), some (.int (0))], [], (hp (px_uR M 14 (upd (M 14) 9 (0))) J R c e nL xs D)) := (px_run_eq _ _ _).trans rfl
theorem eX7_forgetRounds_7 (X : px_X) (M : Nat → Nat → Int32) (J : Nat → Nat → Int64) (R : Nat → Nat → Option Nat) (c e : Nat) (nL : Nat) (xs : Nat → Int32) (D : px_H) (v1 : Int32) : px_run (px_mk (kX7_forgetRounds X)) 7 ([some (.ref 14), some (.int (v1))], [], (hp M J R c e nL xs D)) =
    cond (decide (M 14 1 ≤ v1))
    (px_run (px_mk (kX7_forgetRounds X)) 29 ([some (.ref 14), some (.int (v1))], [], (hp M J R c e nL xs D)))
    (cond (px_inb (v1) 24)
    (px_run (px_mk (kX7_forgetRounds X)) 7 ([some (.ref 14), some (.int ((v1 + 1)))], [], (hp (px_uR M 24 (upd (M 24) (Int32.toNatClampNeg (v1)) (99))) J R c e nL xs D))) none) := (px_run_eq _ _ _).trans rfl
theorem eX7_forgetRounds_29 (X : px_X) (M : Nat → Nat → Int32) (J : Nat → Nat → Int64) (R : Nat → Nat → Option Nat) (c e : Nat) (nL : Nat) (xs : Nat → Int32) (D : px_H) (o0 : Option Value) (o1 : Option Value) : px_run (px_mk (kX7_forgetRounds X)) 29 ([o0, o1], [], (hp M J R c e nL xs D)) =
    some (none, (hp M J R c e nL xs D)) := (px_run_eq _ _ _).trans rfl
