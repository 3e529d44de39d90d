/-! block equations over the fixed layout (written by wip/whole/seg.py) -/
set_option maxRecDepth 40000 in
theorem eX12_inTank_0 (X : px_X) (M : Nat → Nat → Int32) (J : Nat → Nat → Int64) (R : Nat → Nat → Option Nat) (c e : Nat) (nL : Nat) (xs : Nat → Int32) (D : px_H) (v1 : Int32) (v2 : Int32) : px_run (px_mk (kX12_inTank X)) 0 ([some (.ref 67), some (.int (v1)), some (.int (v2)), none, none], [], (hp M J R c e nL xs D)) =
    px_run (px_mk (kX12_inTank X)) 5 ([some (.ref 67), some (.int (v1)), some (.int (v2)), some (.int (0)), some (.int (0))], [], (hp M J R c e nL xs D)) := (px_run_eq _ _ _).trans rfl
set_option maxRecDepth 40000 in
theorem eX12_inTank_5 (X : px_X) (M : Nat → Nat → Int32) (J : Nat → Nat → Int64) (R : Nat → Nat → Option Nat) (c e : Nat) (nL : Nat) (xs : Nat → Int32) (D : px_H) (v1 : Int32) (v2 : Int32) (v3 : Int32) (v4 : Int32) : px_run (px_mk (kX12_inTank X)) 5 ([some (.ref 67), some (.int (v1)), some (.int (v2)), some (.int (v3)), some (.int (v4))], [], (hp M J R c e nL xs D)) =
    cond (decide (M 67 13 ≤ v4))
    (px_run (px_mk (kX12_inTank X)) 53 ([some (.ref 67), some (.int (v1)), some (.int (v2)), some (.int (v3)), some (.int (v4))], [], (hp M J R c e nL xs D)))
    (cond (px_inb (v4) 20)
    (cond (decide (((M 83) (Int32.toNatClampNeg (v4))) = v1))
    (px_run (px_mk (kX12_inTank X)) 30 ([some (.ref 67), some (.int (v1)), some (.int (v2)), some (.int (v3)), some (.int (v4))], [.int (v3)], (hp M J R c e nL xs D)))
    (px_run (px_mk (kX12_inTank X)) 45 ([some (.ref 67), some (.int (v1)), some (.int (v2)), some (.int (v3)), some (.int (v4))], [.int (0), .int (v3)], (hp M J R c e nL xs D)))) none) := (px_run_eq _ _ _).trans rfl
set_option maxRecDepth 40000 in
theorem eX12_inTank_53 (X : px_X) (M : Nat → Nat → Int32) (J : Nat → Nat → Int64) (R : Nat → Nat → Option Nat) (c e : Nat) (nL : Nat) (xs : Nat → Int32) (D : px_H) (o0 : Option Value) (o1 : Option Value) (o2 : Option Value) (v3 : Int32) (o4 : Option Value) : px_run (px_mk (kX12_inTank X)) 53 ([o0, o1, o2, some (.int (v3)), o4], [], (hp M J R c e nL xs D)) =
    some (some (.int (v3)), (hp M J R c e nL xs D)) := (px_run_eq _ _ _).trans rfl
set_option maxRecDepth 40000 in
theorem eX12_inTank_30 (X : px_X) (M : Nat → Nat → Int32) (J : Nat → Nat → Int64) (R : Nat → Nat → Option Nat) (c e : Nat) (nL : Nat) (xs : Nat → Int32) (D : px_H) (v1 : Int32) (v2 : Int32) (o3 : Option Value) (v4 : Int32) (w0 : Int32) : px_run (px_mk (kX12_inTank X)) 30 ([some (.ref 67), some (.int (v1)), some (.int (v2)), o3, some (.int (v4))], [.int (w0)], (hp M J R c e nL xs D)) =
    cond (decide (v2 = 0))
    (px_run (px_mk (kX12_inTank X)) 44 ([some (.ref 67), some (.int (v1)), some (.int (v2)), none, some (.int (v4))], [.int (w0)], (hp M J R c e nL xs D)))
    (cond (px_inb (v4) 20)
    (px_run (px_mk (kX12_inTank X)) 45 ([some (.ref 67), some (.int (v1)), some (.int (v2)), none, some (.int (v4))], [.int (((M 80) (Int32.toNatClampNeg (v4)))), .int (w0)], (hp M J R c e nL xs D))) none) := (px_run_eq _ _ _).trans rfl
set_option maxRecDepth 40000 in
theorem eX12_inTank_45 (X : px_X) (M : Nat → Nat → Int32) (J : Nat → Nat → Int64) (R : Nat → Nat → Option Nat) (c e : Nat) (nL : Nat) (xs : Nat → Int32) (D : px_H) (v1 : Int32) (v2 : Int32) (o3 : Option Value) (v4 : Int32) (w0 : Int32) (w1 : Int32) : px_run (px_mk (kX12_inTank X)) 45 ([some (.ref 67), some (.int (v1)), some (.int (v2)), o3, some (.int (v4))], [.int (w1), .int (w0)], (hp M J R c e nL xs D)) =
    px_run (px_mk (kX12_inTank X)) 5 ([some (.ref 67), some (.int (v1)), some (.int (v2)), some (.int ((w0 + w1))), some (.int ((v4 + 1)))], [], (hp M J R c e nL xs D)) := (px_run_eq _ _ _).trans rfl
set_option maxRecDepth 40000 in
theorem eX12_inTank_44 (X : px_X) (M : Nat → Nat → Int32) (J : Nat → Nat → Int64) (R : Nat → Nat → Option Nat) (c e : Nat) (nL : Nat) (xs : Nat → Int32) (D : px_H) (v1 : Int32) (v2 : Int32) (o3 : Option Value) (v4 : Int32) (w0 : Int32) : px_run (px_mk (kX12_inTank X)) 44 ([some (.ref 67), some (.int (v1)), some (.int (v2)), o3, some (.int (v4))], [.int (w0)], (hp M J R c e nL xs D)) =
    px_run (px_mk (kX12_inTank X)) 45 ([some (.ref 67), some (.int (v1)), some (.int (v2)), none, some (.int (v4))], [.int (1), .int (w0)], (hp M J R c e nL xs D)) := (px_run_eq _ _ _).trans rfl
set_option maxRecDepth 40000 in
theorem eX12_tankTold_0 (X : px_X) (M : Nat → Nat → Int32) (J : Nat → Nat → Int64) (R : Nat → Nat → Option Nat) (c e : Nat) (nL : Nat) (xs : Nat → Int32) (D : px_H) (v1 : Int32) (v2 : Int32) : px_run (px_mk (kX12_tankTold X)) 0 ([some (.ref 67), some (.int (v1)), some (.int (v2))], [], (hp M J R c e nL xs D)) =
    px_bd (X 165 [.int (v1), .int (0), .int ((M 67 22 - 1))] (hp M J R c e nL xs D))
    (fun v G1 => px_p (kX12_tankTold X) 0 7 ([some (.ref 67), some (.int (v1)), some (.int (v2))], px_psh v [], G1)) := (px_run_eq _ _ _).trans rfl
set_option maxRecDepth 40000 in
theorem eX12_tankTold_0_7 (X : px_X) (M : Nat → Nat → Int32) (J : Nat → Nat → Int64) (R : Nat → Nat → Option Nat) (c e : Nat) (nL : Nat) (xs : Nat → Int32) (D : px_H) (v1 : Int32) (v2 : Int32) (w0 : Int32) : px_p (kX12_tankTold X) 0 7 ([some (.ref 67), some (.int (v1)), some (.int (v2))], [.int (w0)], (hp M J R c e nL xs D)) =
    cond (decide (w0 = 0))
    (px_run (px_mk (kX12_tankTold X)) 23 ([some (.ref 67), some (.int (v1)), some (.int (v2))], [], (hp M J R c e nL xs D)))
    (px_bd (X 165 [.int (v2), .int (0), .int (3)] (hp M J R c e nL xs D))
    (fun v G1 => px_p (kX12_tankTold X) 0 12 ([some (.ref 67), some (.int (v1)), some (.int (v2))], px_psh v [], G1))) := rfl
set_option maxRecDepth 40000 in
theorem eX12_tankTold_23 (X : px_X) (M : Nat → Nat → Int32) (J : Nat → Nat → Int64) (R : Nat → Nat → Option Nat) (c e : Nat) (nL : Nat) (xs : Nat → Int32) (D : px_H) (o0 : Option Value) (o1 : Option Value) (o2 : Option Value) : px_run (px_mk (kX12_tankTold X)) 23 ([o0, o1, o2], [], (hp M J R c e nL xs D)) =
    some (some (.int ((-2))), (hp M J R c e nL xs D)) := (px_run_eq _ _ _).trans rfl
set_option maxRecDepth 40000 in
theorem eX12_tankTold_0_12 (X : px_X) (M : Nat → Nat → Int32) (J : Nat → Nat → Int64) (R : Nat → Nat → Option Nat) (c e : Nat) (nL : Nat) (xs : Nat → Int32) (D : px_H) (v1 : Int32) (v2 : Int32) (w0 : Int32) : px_p (kX12_tankTold X) 0 12 ([some (.ref 67), some (.int (v1)), some (.int (v2))], [.int (w0)], (hp M J R c e nL xs D)) =
    cond (decide (¬ w0 = 0))
    (px_run (px_mk (kX12_tankTold X)) 26 ([some (.ref 67), some (.int (v1)), some (.int (v2))], [], (hp M J R c e nL xs D)))
    (px_run (px_mk (kX12_tankTold X)) 23 ([some (.ref 67), some (.int (v1)), some (.int (v2))], [], (hp M J R c e nL xs D))) := rfl
set_option maxRecDepth 40000 in
theorem eX12_tankTold_26 (X : px_X) (M : Nat → Nat → Int32) (J : Nat → Nat → Int64) (R : Nat → Nat → Option Nat) (c e : Nat) (nL : Nat) (xs : Nat → Int32) (D : px_H) (v1 : Int32) (v2 : Int32) : px_run (px_mk (kX12_tankTold X)) 26 ([some (.ref 67), some (.int (v1)), some (.int (v2))], [], (hp M J R c e nL xs D)) =
    cond (decide (¬ v2 = 0))
    (px_run (px_mk (kX12_tankTold X)) 39 ([some (.ref 67), some (.int (v1)), some (.int (v2))], [], (hp M J R c e nL xs D)))
    (cond (px_inb (v1) 6)
    (px_run (px_mk (kX12_tankTold X)) 68 ([some (.ref 67), some (.int (v1)), some (.int (v2))], [.int (((M 85) (Int32.toNatClampNeg (v1))))], (hp M J R c e nL xs D))) none) := (px_run_eq _ _ _).trans rfl
set_option maxRecDepth 40000 in
theorem eX12_tankTold_39 (X : px_X) (M : Nat → Nat → Int32) (J : Nat → Nat → Int64) (R : Nat → Nat → Option Nat) (c e : Nat) (nL : Nat) (xs : Nat → Int32) (D : px_H) (v1 : Int32) (v2 : Int32) : px_run (px_mk (kX12_tankTold X)) 39 ([some (.ref 67), some (.int (v1)), some (.int (v2))], [], (hp M J R c e nL xs D)) =
    cond (decide (¬ v2 = 1))
    (px_run (px_mk (kX12_tankTold X)) 53 ([some (.ref 67), some (.int (v1)), some (.int (v2))], [], (hp M J R c e nL xs D)))
    (cond (px_inb (v1) 6)
    (px_run (px_mk (kX12_tankTold X)) 68 ([some (.ref 67), some (.int (v1)), some (.int (v2))], [.int (((M 86) (Int32.toNatClampNeg (v1))))], (hp M J R c e nL xs D))) none) := (px_run_eq _ _ _).trans rfl
set_option maxRecDepth 40000 in
theorem eX12_tankTold_68 (X : px_X) (M : Nat → Nat → Int32) (J : Nat → Nat → Int64) (R : Nat → Nat → Option Nat) (c e : Nat) (nL : Nat) (xs : Nat → Int32) (D : px_H) (o0 : Option Value) (o1 : Option Value) (o2 : Option Value) (w0 : Int32) : px_run (px_mk (kX12_tankTold X)) 68 ([o0, o1, o2], [.int (w0)], (hp M J R c e nL xs D)) =
    some (some (.int (w0)), (hp M J R c e nL xs D)) := (px_run_eq _ _ _).trans rfl
set_option maxRecDepth 40000 in
theorem eX12_tankTold_53 (X : px_X) (M : Nat → Nat → Int32) (J : Nat → Nat → Int64) (R : Nat → Nat → Option Nat) (c e : Nat) (nL : Nat) (xs : Nat → Int32) (D : px_H) (v1 : Int32) (v2 : Int32) : px_run (px_mk (kX12_tankTold X)) 53 ([some (.ref 67), some (.int (v1)), some (.int (v2))], [], (hp M J R c e nL xs D)) =
    cond (decide (¬ v2 = 2))
    (px_run (px_mk (kX12_tankTold X)) 64 ([some (.ref 67), some (.int (v1)), some (.int (v2))], [.int (v1), .ref 67], (hp M J R c e nL xs D)))
    (px_run (px_mk (kX12_tankTold X)) 65 ([some (.ref 67), some (.int (v1)), some (.int (v2))], [.int (1), .int (v1), .ref 67], (hp M J R c e nL xs D))) := (px_run_eq _ _ _).trans rfl
set_option maxRecDepth 40000 in
theorem eX12_tankTold_64 (X : px_X) (M : Nat → Nat → Int32) (J : Nat → Nat → Int64) (R : Nat → Nat → Option Nat) (c e : Nat) (nL : Nat) (xs : Nat → Int32) (D : px_H) (o0 : Option Value) (o1 : Option Value) (o2 : Option Value) (w1 : Int32) : px_run (px_mk (kX12_tankTold X)) 64 ([o0, o1, o2], [.int (w1), .ref 67], (hp M J R c e nL xs D)) =
    px_run (px_mk (kX12_tankTold X)) 65 ([none, none, none], [.int (0), .int (w1), .ref 67], (hp M J R c e nL xs D)) := (px_run_eq _ _ _).trans rfl
set_option maxRecDepth 40000 in
theorem eX12_tankTold_65_1 (X : px_X) (st : px_S) : px_p (kX12_tankTold X) 65 1 st = px_run (px_mk (kX12_tankTold X)) 68 st := rfl
set_option maxRecDepth 40000 in
theorem eX12_tankTold_65 (X : px_X) (M : Nat → Nat → Int32) (J : Nat → Nat → Int64) (R : Nat → Nat → Option Nat) (c e : Nat) (nL : Nat) (xs : Nat → Int32) (D : px_H) (o0 : Option Value) (o1 : Option Value) (o2 : Option Value) (w1 : Int32) (w2 : Int32) : px_run (px_mk (kX12_tankTold X)) 65 ([o0, o1, o2], [.int (w2), .int (w1), .ref 67], (hp M J R c e nL xs D)) =
    px_bd (X 188 [.ref 67, .int (w1), .int (w2)] (hp M J R c e nL xs D))
    (fun v G1 => px_p (kX12_tankTold X) 65 1 ([none, none, none], px_psh v [], G1)) := (px_run_eq _ _ _).trans rfl
set_option maxRecDepth 40000 in
theorem eX12_isUnder_0 (X : px_X) (M : Nat → Nat → Int32) (J : Nat → Nat → Int64) (R : Nat → Nat → Option Nat) (c e : Nat) (nL : Nat) (xs : Nat → Int32) (D : px_H) (v0 : Int32) (v1 : Int32) : px_run (px_mk (kX12_isUnder X)) 0 ([some (.int (v0)), some (.int (v1))], [], (hp M J R c e nL xs D)) =
    cond (decide (v1 = 0))
    (px_run (px_mk (kX12_isUnder X)) 19 ([some (.int (v0)), some (.int (v1))], [], (hp M J R c e nL xs D)))
    (cond (decide (v0 = v1))
    (px_run (px_mk (kX12_isUnder X)) 19 ([some (.int (v0)), some (.int (v1))], [], (hp M J R c e nL xs D)))
    (cond (decide (¬ v0 = 5))
    (px_run (px_mk (kX12_isUnder X)) 23 ([some (.int (v0)), some (.int (v1))], [], (hp M J R c e nL xs D)))
    (cond (decide (¬ v1 = 3))
    (px_run (px_mk (kX12_isUnder X)) 23 ([some (.int (v0)), some (.int (v1))], [], (hp M J R c e nL xs D)))
    (px_run (px_mk (kX12_isUnder X)) 19 ([some (.int (v0)), some (.int (v1))], [], (hp M J R c e nL xs D)))))) := (px_run_eq _ _ _).trans rfl
set_option maxRecDepth 40000 in
theorem eX12_isUnder_19 (X : px_X) (M : Nat → Nat → Int32) (J : Nat → Nat → Int64) (R : Nat → Nat → Option Nat) (c e : Nat) (nL : Nat) (xs : Nat → Int32) (D : px_H) (o0 : Option Value) (o1 : Option Value) : px_run (px_mk (kX12_isUnder X)) 19 ([o0, o1], [], (hp M J R c e nL xs D)) =
    px_run (px_mk (kX12_isUnder X)) 24 ([none, none], [.int (1)], (hp M J R c e nL xs D)) := (px_run_eq _ _ _).trans rfl
set_option maxRecDepth 40000 in
theorem eX12_isUnder_23 (X : px_X) (M : Nat → Nat → Int32) (J : Nat → Nat → Int64) (R : Nat → Nat → Option Nat) (c e : Nat) (nL : Nat) (xs : Nat → Int32) (D : px_H) (o0 : Option Value) (o1 : Option Value) : px_run (px_mk (kX12_isUnder X)) 23 ([o0, o1], [], (hp M J R c e nL xs D)) =
    px_run (px_mk (kX12_isUnder X)) 24 ([none, none], [.int (0)], (hp M J R c e nL xs D)) := (px_run_eq _ _ _).trans rfl
set_option maxRecDepth 40000 in
theorem eX12_isUnder_24 (X : px_X) (M : Nat → Nat → Int32) (J : Nat → Nat → Int64) (R : Nat → Nat → Option Nat) (c e : Nat) (nL : Nat) (xs : Nat → Int32) (D : px_H) (o0 : Option Value) (o1 : Option Value) (w0 : Int32) : px_run (px_mk (kX12_isUnder X)) 24 ([o0, o1], [.int (w0)], (hp M J R c e nL xs D)) =
    cond (decide (w0 = 0) || decide (w0 = 1)) (some (some (.int (w0)), (hp M J R c e nL xs D))) none := (px_run_eq _ _ _).trans rfl
set_option maxRecDepth 40000 in
theorem eX12_hinders_0 (X : px_X) (M : Nat → Nat → Int32) (J : Nat → Nat → Int64) (R : Nat → Nat → Option Nat) (c e : Nat) (nL : Nat) (xs : Nat → Int32) (D : px_H) (v1 : Int32) (v2 : Int32) (v3 : Int32) : px_run (px_mk (kX12_hinders X)) 0 ([some (.ref 67), some (.int (v1)), some (.int (v2)), some (.int (v3)), none], [], (hp M J R c e nL xs D)) =
    cond (px_inb (v1) 20)
    (cond (decide (((M 83) (Int32.toNatClampNeg (v1))) = (-1)))
    (px_run (px_mk (kX12_hinders X)) 12 ([some (.ref 67), some (.int (v1)), some (.int (v2)), some (.int (v3)), none], [], (hp M J R c e nL xs D)))
    (some (some (.int (1)), (hp M J R c e nL xs D)))) none := (px_run_eq _ _ _).trans rfl
set_option maxRecDepth 40000 in
theorem eX12_hinders_12 (X : px_X) (M : Nat → Nat → Int32) (J : Nat → Nat → Int64) (R : Nat → Nat → Option Nat) (c e : Nat) (nL : Nat) (xs : Nat → Int32) (D : px_H) (v1 : Int32) (v2 : Int32) (v3 : Int32) (o4 : Option Value) : px_run (px_mk (kX12_hinders X)) 12 ([some (.ref 67), some (.int (v1)), some (.int (v2)), some (.int (v3)), o4], [], (hp M J R c e nL xs D)) =
    cond (px_inb (v1) 20)
    (cond (px_inb (v2) 6)
    (px_bd (X 190 [.int (((M 77) (Int32.toNatClampNeg (v1)))), .int (((M 85) (Int32.toNatClampNeg (v2))))] (hp M J R c e nL xs D))
    (fun v G1 => px_p (kX12_hinders X) 12 9 ([some (.ref 67), some (.int (v1)), some (.int (v2)), some (.int (v3)), none], px_psh v [], G1))) none) none := (px_run_eq _ _ _).trans rfl
set_option maxRecDepth 40000 in
theorem eX12_hinders_12_9 (X : px_X) (M : Nat → Nat → Int32) (J : Nat → Nat → Int64) (R : Nat → Nat → Option Nat) (c e : Nat) (nL : Nat) (xs : Nat → Int32) (D : px_H) (v1 : Int32) (v2 : Int32) (v3 : Int32) (w0 : Int32) : px_p (kX12_hinders X) 12 9 ([some (.ref 67), some (.int (v1)), some (.int (v2)), some (.int (v3)), none], [.int (w0)], (hp M J R c e nL xs D)) =
    cond (decide (¬ w0 = 0))
    (px_run (px_mk (kX12_hinders X)) 32 ([some (.ref 67), some (.int (v1)), some (.int (v2)), some (.int (v3)), none], [], (hp M J R c e nL xs D)))
    (some (some (.int (2)), (hp M J R c e nL xs D))) := rfl
set_option maxRecDepth 40000 in
theorem eX12_hinders_32 (X : px_X) (M : Nat → Nat → Int32) (J : Nat → Nat → Int64) (R : Nat → Nat → Option Nat) (c e : Nat) (nL : Nat) (xs : Nat → Int32) (D : px_H) (v1 : Int32) (v2 : Int32) (v3 : Int32) (o4 : Option Value) : px_run (px_mk (kX12_hinders X)) 32 ([some (.ref 67), some (.int (v1)), some (.int (v2)), some (.int (v3)), o4], [], (hp M J R c e nL xs D)) =
    px_bd (X 188 [.ref 67, .int (v2), .int (1)] (hp M J R c e nL xs D))
    (fun v G1 => px_p (kX12_hinders X) 32 4 ([some (.ref 67), some (.int (v1)), some (.int (v2)), some (.int (v3)), none], px_psh v [], G1)) := (px_run_eq _ _ _).trans rfl
set_option maxRecDepth 40000 in
theorem eX12_hinders_32_4 (X : px_X) (M : Nat → Nat → Int32) (J : Nat → Nat → Int64) (R : Nat → Nat → Option Nat) (c e : Nat) (nL : Nat) (xs : Nat → Int32) (D : px_H) (v1 : Int32) (v2 : Int32) (v3 : Int32) (w0 : Int32) : px_p (kX12_hinders X) 32 4 ([some (.ref 67), some (.int (v1)), some (.int (v2)), some (.int (v3)), none], [.int (w0)], (hp M J R c e nL xs D)) =
    cond (px_inb (v1) 20)
    (cond (px_inb (v2) 6)
    (cond (decide ((w0 + ((M 80) (Int32.toNatClampNeg (v1)))) ≤ ((M 86) (Int32.toNatClampNeg (v2)))))
    (px_run (px_mk (kX12_hinders X)) 56 ([some (.ref 67), some (.int (v1)), some (.int (v2)), some (.int (v3)), none], [], (hp M J R c e nL xs D)))
    (some (some (.int (3)), (hp M J R c e nL xs D)))) none) none := rfl
set_option maxRecDepth 40000 in
theorem eX12_hinders_56 (X : px_X) (M : Nat → Nat → Int32) (J : Nat → Nat → Int64) (R : Nat → Nat → Option Nat) (c e : Nat) (nL : Nat) (xs : Nat → Int32) (D : px_H) (v1 : Int32) (o2 : Option Value) (v3 : Int32) (o4 : Option Value) : px_run (px_mk (kX12_hinders X)) 56 ([some (.ref 67), some (.int (v1)), o2, some (.int (v3)), o4], [], (hp M J R c e nL xs D)) =
    px_run (px_mk (kX12_hinders X)) 59 ([some (.ref 67), some (.int (v1)), none, some (.int (v3)), some (.int (0))], [], (hp M J R c e nL xs D)) := (px_run_eq _ _ _).trans rfl
set_option maxRecDepth 40000 in
theorem eX12_hinders_59 (X : px_X) (M : Nat → Nat → Int32) (J : Nat → Nat → Int64) (R : Nat → Nat → Option Nat) (c e : Nat) (nL : Nat) (xs : Nat → Int32) (D : px_H) (v1 : Int32) (o2 : Option Value) (v3 : Int32) (v4 : Int32) : px_run (px_mk (kX12_hinders X)) 59 ([some (.ref 67), some (.int (v1)), o2, some (.int (v3)), some (.int (v4))], [], (hp M J R c e nL xs D)) =
    cond (decide (M 67 38 ≤ v4))
    (px_run (px_mk (kX12_hinders X)) 90 ([some (.ref 67), some (.int (v1)), none, some (.int (v3)), some (.int (v4))], [], (hp M J R c e nL xs D)))
    (px_bd (X 230 [.ref 67, .int (v4), .int (v1), .int (v3)] (hp M J R c e nL xs D))
    (fun v G1 => px_p (kX12_hinders X) 59 9 ([some (.ref 67), some (.int (v1)), none, some (.int (v3)), some (.int (v4))], px_psh v [], G1))) := (px_run_eq _ _ _).trans rfl
set_option maxRecDepth 40000 in
theorem eX12_hinders_90 (X : px_X) (M : Nat → Nat → Int32) (J : Nat → Nat → Int64) (R : Nat → Nat → Option Nat) (c e : Nat) (nL : Nat) (xs : Nat → Int32) (D : px_H) (o0 : Option Value) (o1 : Option Value) (o2 : Option Value) (o3 : Option Value) (o4 : Option Value) : px_run (px_mk (kX12_hinders X)) 90 ([o0, o1, o2, o3, o4], [], (hp M J R c e nL xs D)) =
    some (some (.int (0)), (hp M J R c e nL xs D)) := (px_run_eq _ _ _).trans rfl
set_option maxRecDepth 40000 in
theorem eX12_hinders_59_9 (X : px_X) (M : Nat → Nat → Int32) (J : Nat → Nat → Int64) (R : Nat → Nat → Option Nat) (c e : Nat) (nL : Nat) (xs : Nat → Int32) (D : px_H) (v1 : Int32) (v3 : Int32) (v4 : Int32) (w0 : Int32) : px_p (kX12_hinders X) 59 9 ([some (.ref 67), some (.int (v1)), none, some (.int (v3)), some (.int (v4))], [.int (w0)], (hp M J R c e nL xs D)) =
    cond (decide (w0 = 0))
    (px_run (px_mk (kX12_hinders X)) 84 ([some (.ref 67), some (.int (v1)), none, some (.int (v3)), some (.int (v4))], [], (hp M J R c e nL xs D)))
    (some (some (.int ((4 + v4))), (hp M J R c e nL xs D))) := rfl
set_option maxRecDepth 40000 in
theorem eX12_hinders_84 (X : px_X) (M : Nat → Nat → Int32) (J : Nat → Nat → Int64) (R : Nat → Nat → Option Nat) (c e : Nat) (nL : Nat) (xs : Nat → Int32) (D : px_H) (v1 : Int32) (o2 : Option Value) (v3 : Int32) (v4 : Int32) : px_run (px_mk (kX12_hinders X)) 84 ([some (.ref 67), some (.int (v1)), o2, some (.int (v3)), some (.int (v4))], [], (hp M J R c e nL xs D)) =
    px_run (px_mk (kX12_hinders X)) 59 ([some (.ref 67), some (.int (v1)), none, some (.int (v3)), some (.int ((v4 + 1)))], [], (hp M J R c e nL xs D)) := (px_run_eq _ _ _).trans rfl
set_option maxRecDepth 40000 in
theorem eX12_why_0 (X : px_X) (M : Nat → Nat → Int32) (J : Nat → Nat → Int64) (R : Nat → Nat → Option Nat) (c e : Nat) (nL : Nat) (xs : Nat → Int32) (D : px_H) (v1 : Int32) (v2 : Int32) (v3 : Int32) : px_run (px_mk (kX12_why X)) 0 ([some (.ref 67), some (.int (v1)), some (.int (v2)), some (.int (v3))], [], (hp M J R c e nL xs D)) =
    px_bd (X 167 [.ref 67, .int (v1)] (hp M J R c e nL xs D))
    (fun v G1 => px_p (kX12_why X) 0 3 ([some (.ref 67), some (.int (v1)), some (.int (v2)), some (.int (v3))], px_psh v [], G1)) := (px_run_eq _ _ _).trans rfl
set_option maxRecDepth 40000 in
theorem eX12_why_0_3 (X : px_X) (M : Nat → Nat → Int32) (J : Nat → Nat → Int64) (R : Nat → Nat → Option Nat) (c e : Nat) (nL : Nat) (xs : Nat → Int32) (D : px_H) (v1 : Int32) (v2 : Int32) (v3 : Int32) (w0 : Int32) : px_p (kX12_why X) 0 3 ([some (.ref 67), some (.int (v1)), some (.int (v2)), some (.int (v3))], [.int (w0)], (hp M J R c e nL xs D)) =
    cond (decide (w0 = 0))
    (px_run (px_mk (kX12_why X)) 39 ([some (.ref 67), some (.int (v1)), some (.int (v2)), some (.int (v3))], [], (hp M J R c e nL xs D)))
    (px_bd (X 165 [.int (v2), .int (0), .int ((M 67 22 - 1))] (hp M J R c e nL xs D))
    (fun v G1 => px_p (kX12_why X) 0 11 ([some (.ref 67), some (.int (v1)), some (.int (v2)), some (.int (v3))], px_psh v [], G1))) := rfl
set_option maxRecDepth 40000 in
theorem eX12_why_39 (X : px_X) (M : Nat → Nat → Int32) (J : Nat → Nat → Int64) (R : Nat → Nat → Option Nat) (c e : Nat) (nL : Nat) (xs : Nat → Int32) (D : px_H) (o0 : Option Value) (o1 : Option Value) (o2 : Option Value) (o3 : Option Value) : px_run (px_mk (kX12_why X)) 39 ([o0, o1, o2, o3], [], (hp M J R c e nL xs D)) =
    px_run (px_mk (kX12_why X)) 41 ([none, none, none, none], [.int ((-2))], (hp M J R c e nL xs D)) := (px_run_eq _ _ _).trans rfl
set_option maxRecDepth 40000 in
theorem eX12_why_0_11 (X : px_X) (M : Nat → Nat → Int32) (J : Nat → Nat → Int64) (R : Nat → Nat → Option Nat) (c e : Nat) (nL : Nat) (xs : Nat → Int32) (D : px_H) (v1 : Int32) (v2 : Int32) (v3 : Int32) (w0 : Int32) : px_p (kX12_why X) 0 11 ([some (.ref 67), some (.int (v1)), some (.int (v2)), some (.int (v3))], [.int (w0)], (hp M J R c e nL xs D)) =
    cond (decide (w0 = 0))
    (px_run (px_mk (kX12_why X)) 39 ([some (.ref 67), some (.int (v1)), some (.int (v2)), some (.int (v3))], [], (hp M J R c e nL xs D)))
    (px_bd (X 168 [.int (v3)] (hp M J R c e nL xs D))
    (fun v G1 => px_p (kX12_why X) 0 14 ([some (.ref 67), some (.int (v1)), some (.int (v2)), some (.int (v3))], px_psh v [], G1))) := rfl
set_option maxRecDepth 40000 in
theorem eX12_why_41 (X : px_X) (M : Nat → Nat → Int32) (J : Nat → Nat → Int64) (R : Nat → Nat → Option Nat) (c e : Nat) (nL : Nat) (xs : Nat → Int32) (D : px_H) (o0 : Option Value) (o1 : Option Value) (o2 : Option Value) (o3 : Option Value) (w0 : Int32) : px_run (px_mk (kX12_why X)) 41 ([o0, o1, o2, o3], [.int (w0)], (hp M J R c e nL xs D)) =
    some (some (.int (w0)), (hp M J R c e nL xs D)) := (px_run_eq _ _ _).trans rfl
set_option maxRecDepth 40000 in
theorem eX12_why_0_14 (X : px_X) (M : Nat → Nat → Int32) (J : Nat → Nat → Int64) (R : Nat → Nat → Option Nat) (c e : Nat) (nL : Nat) (xs : Nat → Int32) (D : px_H) (v1 : Int32) (v2 : Int32) (v3 : Int32) (w0 : Int32) : px_p (kX12_why X) 0 14 ([some (.ref 67), some (.int (v1)), some (.int (v2)), some (.int (v3))], [.int (w0)], (hp M J R c e nL xs D)) =
    cond (decide (w0 = 0))
    (px_run (px_mk (kX12_why X)) 39 ([some (.ref 67), some (.int (v1)), some (.int (v2)), some (.int (v3))], [], (hp M J R c e nL xs D)))
    (px_bd (X 191 [.ref 67, .int (v1), .int (v2), .int (v3)] (hp M J R c e nL xs D))
    (fun v G1 => px_p (kX12_why X) 0 20 ([some (.ref 67), some (.int (v1)), some (.int (v2)), some (.int (v3))], px_psh v [], G1))) := rfl
set_option maxRecDepth 40000 in
theorem eX12_why_0_20 (X : px_X) (M : Nat → Nat → Int32) (J : Nat → Nat → Int64) (R : Nat → Nat → Option Nat) (c e : Nat) (nL : Nat) (xs : Nat → Int32) (D : px_H) (v1 : Int32) (v2 : Int32) (v3 : Int32) (w0 : Int32) : px_p (kX12_why X) 0 20 ([some (.ref 67), some (.int (v1)), some (.int (v2)), some (.int (v3))], [.int (w0)], (hp M J R c e nL xs D)) =
    px_run (px_mk (kX12_why X)) 41 ([some (.ref 67), some (.int (v1)), some (.int (v2)), some (.int (v3))], [.int (w0)], (hp M J R c e nL xs D)) := rfl
set_option maxRecDepth 40000 in
theorem eX12_lift_0 (X : px_X) (M : Nat → Nat → Int32) (J : Nat → Nat → Int64) (R : Nat → Nat → Option Nat) (c e : Nat) (nL : Nat) (xs : Nat → Int32) (D : px_H) (v1 : Int32) (v2 : Int32) (v3 : Int32) : px_run (px_mk (kX12_lift X)) 0 ([some (.ref 67), some (.int (v1)), some (.int (v2)), some (.int (v3)), none], [], (hp M J R c e nL xs D)) =
    px_bd (X 192 [.ref 67, .int (v1), .int (v2), .int (v3)] (hp M J R c e nL xs D))
    (fun v G1 => px_p (kX12_lift X) 0 5 ([some (.ref 67), some (.int (v1)), some (.int (v2)), some (.int (v3)), none], px_psh v [], G1)) := (px_run_eq _ _ _).trans rfl
set_option maxRecDepth 40000 in
theorem eX12_lift_0_5 (X : px_X) (M : Nat → Nat → Int32) (J : Nat → Nat → Int64) (R : Nat → Nat → Option Nat) (c e : Nat) (nL : Nat) (xs : Nat → Int32) (D : px_H) (v1 : Int32) (v2 : Int32) (v3 : Int32) (w0 : Int32) : px_p (kX12_lift X) 0 5 ([some (.ref 67), some (.int (v1)), some (.int (v2)), some (.int (v3)), none], [.int (w0)], (hp M J R c e nL xs D)) =
    cond (decide (¬ w0 = (-2)))
    (px_run (px_mk (kX12_lift X)) 19 ([some (.ref 67), some (.int (v1)), some (.int (v2)), some (.int (v3)), some (.int (w0))], [], (hp M J R c e nL xs D)))
    (some (some (.int ((-2))), (hp M J R c e nL xs D))) := rfl
set_option maxRecDepth 40000 in
theorem eX12_lift_19 (X : px_X) (M : Nat → Nat → Int32) (J : Nat → Nat → Int64) (R : Nat → Nat → Option Nat) (c e : Nat) (nL : Nat) (xs : Nat → Int32) (D : px_H) (v1 : Int32) (v2 : Int32) (v3 : Int32) (v4 : Int32) : px_run (px_mk (kX12_lift X)) 19 ([some (.ref 67), some (.int (v1)), some (.int (v2)), some (.int (v3)), some (.int (v4))], [], (hp M J R c e nL xs D)) =
    cond (decide (v4 = 0))
    (px_run (px_mk (kX12_lift X)) 30 ([some (.ref 67), some (.int (v1)), some (.int (v2)), some (.int (v3)), some (.int (v4))], [], (hp M J R c e nL xs D)))
    (some (some (.int (((-20) - v4))), (hp M J R c e nL xs D))) := (px_run_eq _ _ _).trans rfl
set_option maxRecDepth 40000 in
theorem eX12_lift_30 (X : px_X) (M : Nat → Nat → Int32) (J : Nat → Nat → Int64) (R : Nat → Nat → Option Nat) (c e : Nat) (nL : Nat) (xs : Nat → Int32) (D : px_H) (v1 : Int32) (v2 : Int32) (v3 : Int32) (o4 : Option Value) : px_run (px_mk (kX12_lift X)) 30 ([some (.ref 67), some (.int (v1)), some (.int (v2)), some (.int (v3)), o4], [], (hp M J R c e nL xs D)) =
    cond (px_inb (v1) 20)
    (cond (px_inb (v1) 20)
    (some (some (.int (1)), (hp (px_uR (px_uR M 83 (upd (M 83) (Int32.toNatClampNeg (v1)) (v2))) 84 (upd (M 84) (Int32.toNatClampNeg (v1)) (v3))) J R c e nL xs D))) none) none := (px_run_eq _ _ _).trans rfl
set_option maxRecDepth 40000 in
theorem eX12_take_0 (X : px_X) (M : Nat → Nat → Int32) (J : Nat → Nat → Int64) (R : Nat → Nat → Option Nat) (c e : Nat) (nL : Nat) (xs : Nat → Int32) (D : px_H) (v1 : Int32) (v2 : Int32) : px_run (px_mk (kX12_take X)) 0 ([some (.ref 67), some (.int (v1)), some (.int (v2))], [], (hp M J R c e nL xs D)) =
    px_bd (X 167 [.ref 67, .int (v1)] (hp M J R c e nL xs D))
    (fun v G1 => px_p (kX12_take X) 0 3 ([some (.ref 67), some (.int (v1)), some (.int (v2))], px_psh v [], G1)) := (px_run_eq _ _ _).trans rfl
set_option maxRecDepth 40000 in
theorem eX12_take_0_3 (X : px_X) (M : Nat → Nat → Int32) (J : Nat → Nat → Int64) (R : Nat → Nat → Option Nat) (c e : Nat) (nL : Nat) (xs : Nat → Int32) (D : px_H) (v1 : Int32) (v2 : Int32) (w0 : Int32) : px_p (kX12_take X) 0 3 ([some (.ref 67), some (.int (v1)), some (.int (v2))], [.int (w0)], (hp M J R c e nL xs D)) =
    cond (decide (w0 = 0))
    (px_run (px_mk (kX12_take X)) 15 ([some (.ref 67), some (.int (v1)), some (.int (v2))], [], (hp M J R c e nL xs D)))
    (px_bd (X 168 [.int (v2)] (hp M J R c e nL xs D))
    (fun v G1 => px_p (kX12_take X) 0 6 ([some (.ref 67), some (.int (v1)), some (.int (v2))], px_psh v [], G1))) := rfl
set_option maxRecDepth 40000 in
theorem eX12_take_15 (X : px_X) (M : Nat → Nat → Int32) (J : Nat → Nat → Int64) (R : Nat → Nat → Option Nat) (c e : Nat) (nL : Nat) (xs : Nat → Int32) (D : px_H) (o0 : Option Value) (o1 : Option Value) (o2 : Option Value) : px_run (px_mk (kX12_take X)) 15 ([o0, o1, o2], [], (hp M J R c e nL xs D)) =
    some (some (.int ((-2))), (hp M J R c e nL xs D)) := (px_run_eq _ _ _).trans rfl
set_option maxRecDepth 40000 in
theorem eX12_take_0_6 (X : px_X) (M : Nat → Nat → Int32) (J : Nat → Nat → Int64) (R : Nat → Nat → Option Nat) (c e : Nat) (nL : Nat) (xs : Nat → Int32) (D : px_H) (v1 : Int32) (v2 : Int32) (w0 : Int32) : px_p (kX12_take X) 0 6 ([some (.ref 67), some (.int (v1)), some (.int (v2))], [.int (w0)], (hp M J R c e nL xs D)) =
    cond (decide (¬ w0 = 0))
    (px_run (px_mk (kX12_take X)) 18 ([some (.ref 67), some (.int (v1)), some (.int (v2))], [], (hp M J R c e nL xs D)))
    (px_run (px_mk (kX12_take X)) 15 ([some (.ref 67), some (.int (v1)), some (.int (v2))], [], (hp M J R c e nL xs D))) := rfl
set_option maxRecDepth 40000 in
theorem eX12_take_18 (X : px_X) (M : Nat → Nat → Int32) (J : Nat → Nat → Int64) (R : Nat → Nat → Option Nat) (c e : Nat) (nL : Nat) (xs : Nat → Int32) (D : px_H) (v1 : Int32) (v2 : Int32) : px_run (px_mk (kX12_take X)) 18 ([some (.ref 67), some (.int (v1)), some (.int (v2))], [], (hp M J R c e nL xs D)) =
    cond (px_inb (v1) 20)
    (cond (decide (((M 83) (Int32.toNatClampNeg (v1))) < 0))
    (px_run (px_mk (kX12_take X)) 46 ([some (.ref 67), some (.int (v1)), some (.int (v2))], [], (hp M J R c e nL xs D)))
    (cond (px_inb (v1) 20)
    (px_bd (X 185 [.ref 67, .int (v1)] (hp M J R c e nL xs D))
    (fun v G1 => px_p (kX12_take X) 18 14 ([some (.ref 67), some (.int (v1)), some (.int (v2))], px_psh v [.int (7), .int (((M 84) (Int32.toNatClampNeg (v1)))), .int (v2)], G1))) none)) none := (px_run_eq _ _ _).trans rfl
set_option maxRecDepth 40000 in
theorem eX12_take_46 (X : px_X) (M : Nat → Nat → Int32) (J : Nat → Nat → Int64) (R : Nat → Nat → Option Nat) (c e : Nat) (nL : Nat) (xs : Nat → Int32) (D : px_H) (o0 : Option Value) (o1 : Option Value) (o2 : Option Value) : px_run (px_mk (kX12_take X)) 46 ([o0, o1, o2], [], (hp M J R c e nL xs D)) =
    some (some (.int ((-3))), (hp M J R c e nL xs D)) := (px_run_eq _ _ _).trans rfl
set_option maxRecDepth 40000 in
theorem eX12_take_18_14 (X : px_X) (M : Nat → Nat → Int32) (J : Nat → Nat → Int64) (R : Nat → Nat → Option Nat) (c e : Nat) (nL : Nat) (xs : Nat → Int32) (D : px_H) (v1 : Int32) (v2 : Int32) (w0 : Int32) (w1 : Int32) (w2 : Int32) (w3 : Int32) : px_p (kX12_take X) 18 14 ([some (.ref 67), some (.int (v1)), some (.int (v2))], [.int (w3), .int (w2), .int (w1), .int (w0)], (hp M J R c e nL xs D)) =
    cond (decide ((w1 + (w2 * w3)) ≤ w0))
    (px_run (px_mk (kX12_take X)) 49 ([some (.ref 67), some (.int (v1)), some (.int (v2))], [], (hp M J R c e nL xs D)))
    (px_run (px_mk (kX12_take X)) 46 ([some (.ref 67), some (.int (v1)), some (.int (v2))], [], (hp M J R c e nL xs D))) := rfl
set_option maxRecDepth 40000 in
theorem eX12_take_49 (X : px_X) (M : Nat → Nat → Int32) (J : Nat → Nat → Int64) (R : Nat → Nat → Option Nat) (c e : Nat) (nL : Nat) (xs : Nat → Int32) (D : px_H) (v1 : Int32) (o2 : Option Value) : px_run (px_mk (kX12_take X)) 49 ([some (.ref 67), some (.int (v1)), o2], [], (hp M J R c e nL xs D)) =
    cond (px_inb (v1) 20)
    (some (some (.int (1)), (hp (px_uR M 83 (upd (M 83) (Int32.toNatClampNeg (v1)) ((-2)))) J R c e nL xs D))) none := (px_run_eq _ _ _).trans rfl
set_option maxRecDepth 40000 in
theorem eX12_diver_0 (X : px_X) (M : Nat → Nat → Int32) (J : Nat → Nat → Int64) (R : Nat → Nat → Option Nat) (c e : Nat) (nL : Nat) (xs : Nat → Int32) (D : px_H)  : px_run (px_mk (kX12_diver X)) 0 ([some (.ref 67)], [], (hp M J R c e nL xs D)) =
    cond (decide (¬ M 67 25 = 6))
    (px_run (px_mk (kX12_diver X)) 12 ([some (.ref 67)], [], (hp M J R c e nL xs D)))
    (some (some (.int ((-4))), (hp M J R c e nL xs D))) := (px_run_eq _ _ _).trans rfl
set_option maxRecDepth 40000 in
theorem eX12_diver_12 (X : px_X) (M : Nat → Nat → Int32) (J : Nat → Nat → Int64) (R : Nat → Nat → Option Nat) (c e : Nat) (nL : Nat) (xs : Nat → Int32) (D : px_H)  : px_run (px_mk (kX12_diver X)) 12 ([some (.ref 67)], [], (hp M J R c e nL xs D)) =
    some (some (.int (((M 67 25 + 1) - 1))), (hp (px_uR M 67 (upd (M 67) 25 ((M 67 25 + 1)))) J R c e nL xs D)) := (px_run_eq _ _ _).trans rfl
set_option maxRecDepth 40000 in
theorem eX12_row_0 (X : px_X) (M : Nat → Nat → Int32) (J : Nat → Nat → Int64) (R : Nat → Nat → Option Nat) (c e : Nat) (nL : Nat) (xs : Nat → Int32) (D : px_H) (v1 : Int32) (v2 : Int32) (v3 : Int32) : px_run (px_mk (kX12_row X)) 0 ([some (.ref 67), some (.int (v1)), some (.int (v2)), some (.int (v3)), none, none], [], (hp M J R c e nL xs D)) =
    px_bd (X 165 [.int (v1), .int (1), .int (90)] (hp M J R c e nL xs D))
    (fun v G1 => px_p (kX12_row X) 0 4 ([some (.ref 67), some (.int (v1)), some (.int (v2)), some (.int (v3)), none, none], px_psh v [], G1)) := (px_run_eq _ _ _).trans rfl
set_option maxRecDepth 40000 in
theorem eX12_row_0_4 (X : px_X) (M : Nat → Nat → Int32) (J : Nat → Nat → Int64) (R : Nat → Nat → Option Nat) (c e : Nat) (nL : Nat) (xs : Nat → Int32) (D : px_H) (v1 : Int32) (v2 : Int32) (v3 : Int32) (w0 : Int32) : px_p (kX12_row X) 0 4 ([some (.ref 67), some (.int (v1)), some (.int (v2)), some (.int (v3)), none, none], [.int (w0)], (hp M J R c e nL xs D)) =
    cond (decide (w0 = 0))
    (px_run (px_mk (kX12_row X)) 32 ([some (.ref 67), some (.int (v1)), some (.int (v2)), some (.int (v3)), none, none], [], (hp M J R c e nL xs D)))
    (px_bd (X 165 [.int (v2), .int (1), .int (200)] (hp M J R c e nL xs D))
    (fun v G1 => px_p (kX12_row X) 0 9 ([some (.ref 67), some (.int (v1)), some (.int (v2)), some (.int (v3)), none, none], px_psh v [], G1))) := rfl
set_option maxRecDepth 40000 in
theorem eX12_row_32 (X : px_X) (M : Nat → Nat → Int32) (J : Nat → Nat → Int64) (R : Nat → Nat → Option Nat) (c e : Nat) (nL : Nat) (xs : Nat → Int32) (D : px_H) (o0 : Option Value) (o1 : Option Value) (o2 : Option Value) (o3 : Option Value) (o4 : Option Value) (o5 : Option Value) : px_run (px_mk (kX12_row X)) 32 ([o0, o1, o2, o3, o4, o5], [], (hp M J R c e nL xs D)) =
    some (some (.int ((-2))), (hp M J R c e nL xs D)) := (px_run_eq _ _ _).trans rfl
set_option maxRecDepth 40000 in
theorem eX12_row_0_9 (X : px_X) (M : Nat → Nat → Int32) (J : Nat → Nat → Int64) (R : Nat → Nat → Option Nat) (c e : Nat) (nL : Nat) (xs : Nat → Int32) (D : px_H) (v1 : Int32) (v2 : Int32) (v3 : Int32) (w0 : Int32) : px_p (kX12_row X) 0 9 ([some (.ref 67), some (.int (v1)), some (.int (v2)), some (.int (v3)), none, none], [.int (w0)], (hp M J R c e nL xs D)) =
    cond (decide (w0 = 0))
    (px_run (px_mk (kX12_row X)) 32 ([some (.ref 67), some (.int (v1)), some (.int (v2)), some (.int (v3)), none, none], [], (hp M J R c e nL xs D)))
    (px_bd (X 165 [.int (v3), .int (1), .int (1440)] (hp M J R c e nL xs D))
    (fun v G1 => px_p (kX12_row X) 0 14 ([some (.ref 67), some (.int (v1)), some (.int (v2)), some (.int (v3)), none, none], px_psh v [], G1))) := rfl
set_option maxRecDepth 40000 in
theorem eX12_row_0_14 (X : px_X) (M : Nat → Nat → Int32) (J : Nat → Nat → Int64) (R : Nat → Nat → Option Nat) (c e : Nat) (nL : Nat) (xs : Nat → Int32) (D : px_H) (v1 : Int32) (v2 : Int32) (v3 : Int32) (w0 : Int32) : px_p (kX12_row X) 0 14 ([some (.ref 67), some (.int (v1)), some (.int (v2)), some (.int (v3)), none, none], [.int (w0)], (hp M J R c e nL xs D)) =
    cond (decide (¬ w0 = 0))
    (px_run (px_mk (kX12_row X)) 35 ([some (.ref 67), some (.int (v1)), some (.int (v2)), some (.int (v3)), none, none], [], (hp M J R c e nL xs D)))
    (px_run (px_mk (kX12_row X)) 32 ([some (.ref 67), some (.int (v1)), some (.int (v2)), some (.int (v3)), none, none], [], (hp M J R c e nL xs D))) := rfl
set_option maxRecDepth 40000 in
theorem eX12_row_35 (X : px_X) (M : Nat → Nat → Int32) (J : Nat → Nat → Int64) (R : Nat → Nat → Option Nat) (c e : Nat) (nL : Nat) (xs : Nat → Int32) (D : px_H) (v1 : Int32) (v2 : Int32) (v3 : Int32) (o4 : Option Value) (o5 : Option Value) : px_run (px_mk (kX12_row X)) 35 ([some (.ref 67), some (.int (v1)), some (.int (v2)), some (.int (v3)), o4, o5], [], (hp M J R c e nL xs D)) =
    px_run (px_mk (kX12_row X)) 38 ([some (.ref 67), some (.int (v1)), some (.int (v2)), some (.int (v3)), some (.int (0)), none], [], (hp M J R c e nL xs D)) := (px_run_eq _ _ _).trans rfl
set_option maxRecDepth 40000 in
theorem eX12_row_38 (X : px_X) (M : Nat → Nat → Int32) (J : Nat → Nat → Int64) (R : Nat → Nat → Option Nat) (c e : Nat) (nL : Nat) (xs : Nat → Int32) (D : px_H) (v1 : Int32) (v2 : Int32) (v3 : Int32) (v4 : Int32) (o5 : Option Value) : px_run (px_mk (kX12_row X)) 38 ([some (.ref 67), some (.int (v1)), some (.int (v2)), some (.int (v3)), some (.int (v4)), o5], [], (hp M J R c e nL xs D)) =
    cond (decide (M 67 26 ≤ v4))
    (px_run (px_mk (kX12_row X)) 64 ([some (.ref 67), some (.int (v1)), some (.int (v2)), some (.int (v3)), some (.int (v4)), none], [], (hp M J R c e nL xs D)))
    (cond (px_inb (v4) 8)
    (cond (decide (v1 ≤ ((M 87) (Int32.toNatClampNeg (v4)))))
    (px_run (px_mk (kX12_row X)) 64 ([some (.ref 67), some (.int (v1)), some (.int (v2)), some (.int (v3)), some (.int (v4)), none], [], (hp M J R c e nL xs D)))
    (px_run (px_mk (kX12_row X)) 38 ([some (.ref 67), some (.int (v1)), some (.int (v2)), some (.int (v3)), some (.int ((v4 + 1))), none], [], (hp M J R c e nL xs D)))) none) := (px_run_eq _ _ _).trans rfl
set_option maxRecDepth 40000 in
theorem eX12_row_64 (X : px_X) (M : Nat → Nat → Int32) (J : Nat → Nat → Int64) (R : Nat → Nat → Option Nat) (c e : Nat) (nL : Nat) (xs : Nat → Int32) (D : px_H) (v1 : Int32) (v2 : Int32) (v3 : Int32) (v4 : Int32) (o5 : Option Value) : px_run (px_mk (kX12_row X)) 64 ([some (.ref 67), some (.int (v1)), some (.int (v2)), some (.int (v3)), some (.int (v4)), o5], [], (hp M J R c e nL xs D)) =
    cond (decide (v4 = M 67 26))
    (px_run (px_mk (kX12_row X)) 84 ([some (.ref 67), some (.int (v1)), some (.int (v2)), some (.int (v3)), some (.int (v4)), none], [], (hp M J R c e nL xs D)))
    (cond (px_inb (v4) 8)
    (cond (decide (((M 87) (Int32.toNatClampNeg (v4))) = v1))
    (px_run (px_mk (kX12_row X)) 173 ([some (.ref 67), some (.int (v1)), some (.int (v2)), some (.int (v3)), some (.int (v4)), none], [], (hp M J R c e nL xs D)))
    (px_run (px_mk (kX12_row X)) 84 ([some (.ref 67), some (.int (v1)), some (.int (v2)), some (.int (v3)), some (.int (v4)), none], [], (hp M J R c e nL xs D)))) none) := (px_run_eq _ _ _).trans rfl
set_option maxRecDepth 40000 in
theorem eX12_row_84 (X : px_X) (M : Nat → Nat → Int32) (J : Nat → Nat → Int64) (R : Nat → Nat → Option Nat) (c e : Nat) (nL : Nat) (xs : Nat → Int32) (D : px_H) (v1 : Int32) (v2 : Int32) (v3 : Int32) (v4 : Int32) (o5 : Option Value) : px_run (px_mk (kX12_row X)) 84 ([some (.ref 67), some (.int (v1)), some (.int (v2)), some (.int (v3)), some (.int (v4)), o5], [], (hp M J R c e nL xs D)) =
    cond (decide (¬ M 67 26 = 8))
    (px_run (px_mk (kX12_row X)) 96 ([some (.ref 67), some (.int (v1)), some (.int (v2)), some (.int (v3)), some (.int (v4)), none], [], (hp M J R c e nL xs D)))
    (some (some (.int ((-4))), (hp M J R c e nL xs D))) := (px_run_eq _ _ _).trans rfl
set_option maxRecDepth 40000 in
theorem eX12_row_173 (X : px_X) (M : Nat → Nat → Int32) (J : Nat → Nat → Int64) (R : Nat → Nat → Option Nat) (c e : Nat) (nL : Nat) (xs : Nat → Int32) (D : px_H) (v1 : Int32) (v2 : Int32) (v3 : Int32) (v4 : Int32) (o5 : Option Value) : px_run (px_mk (kX12_row X)) 173 ([some (.ref 67), some (.int (v1)), some (.int (v2)), some (.int (v3)), some (.int (v4)), o5], [], (hp M J R c e nL xs D)) =
    cond (px_inb (v4) 8)
    (cond (px_inb (v4) 8)
    (cond (px_inb (v4) 8)
    (some (some (.int (M 67 26)), (hp (px_uR (px_uR (px_uR M 87 (upd (M 87) (Int32.toNatClampNeg (v4)) (v1))) 88 (upd (M 88) (Int32.toNatClampNeg (v4)) (v2))) 89 (upd (M 89) (Int32.toNatClampNeg (v4)) (v3))) J R c e nL xs D))) none) none) none := (px_run_eq _ _ _).trans rfl
set_option maxRecDepth 40000 in
theorem eX12_row_96 (X : px_X) (M : Nat → Nat → Int32) (J : Nat → Nat → Int64) (R : Nat → Nat → Option Nat) (c e : Nat) (nL : Nat) (xs : Nat → Int32) (D : px_H) (v1 : Int32) (v2 : Int32) (v3 : Int32) (v4 : Int32) (o5 : Option Value) : px_run (px_mk (kX12_row X)) 96 ([some (.ref 67), some (.int (v1)), some (.int (v2)), some (.int (v3)), some (.int (v4)), o5], [], (hp M J R c e nL xs D)) =
    px_run (px_mk (kX12_row X)) 102 ([some (.ref 67), some (.int (v1)), some (.int (v2)), some (.int (v3)), some (.int (v4)), some (.int (M 67 26))], [], (hp M J R c e nL xs D)) := (px_run_eq _ _ _).trans rfl
set_option maxRecDepth 40000 in
theorem eX12_row_102 (X : px_X) (M : Nat → Nat → Int32) (J : Nat → Nat → Int64) (R : Nat → Nat → Option Nat) (c e : Nat) (nL : Nat) (xs : Nat → Int32) (D : px_H) (v1 : Int32) (v2 : Int32) (v3 : Int32) (v4 : Int32) (v5 : Int32) : px_run (px_mk (kX12_row X)) 102 ([some (.ref 67), some (.int (v1)), some (.int (v2)), some (.int (v3)), some (.int (v4)), some (.int (v5))], [], (hp M J R c e nL xs D)) =
    cond (decide (v5 ≤ v4))
    (px_run (px_mk (kX12_row X)) 163 ([some (.ref 67), some (.int (v1)), some (.int (v2)), some (.int (v3)), some (.int (v4)), some (.int (v5))], [], (hp M J R c e nL xs D)))
    (cond (px_inb ((v5 - 1)) 8)
    (cond (px_inb (v5) 8)
    (cond (px_inb ((v5 - 1)) 8)
    (cond (px_inb (v5) 8)
    (cond (px_inb ((v5 - 1)) 8)
    (cond (px_inb (v5) 8)
    (px_run (px_mk (kX12_row X)) 102 ([some (.ref 67), some (.int (v1)), some (.int (v2)), some (.int (v3)), some (.int (v4)), some (.int ((v5 + (-1))))], [], (hp (px_uR (px_uR (px_uR M 87 (upd (M 87) (Int32.toNatClampNeg (v5)) (((M 87) (Int32.toNatClampNeg ((v5 - 1))))))) 88 (upd (M 88) (Int32.toNatClampNeg (v5)) (((M 88) (Int32.toNatClampNeg ((v5 - 1))))))) 89 (upd (M 89) (Int32.toNatClampNeg (v5)) (((M 89) (Int32.toNatClampNeg ((v5 - 1))))))) J R c e nL xs D))) none) none) none) none) none) none) := (px_run_eq _ _ _).trans rfl
set_option maxRecDepth 40000 in
theorem eX12_row_163 (X : px_X) (M : Nat → Nat → Int32) (J : Nat → Nat → Int64) (R : Nat → Nat → Option Nat) (c e : Nat) (nL : Nat) (xs : Nat → Int32) (D : px_H) (v1 : Int32) (v2 : Int32) (v3 : Int32) (v4 : Int32) (o5 : Option Value) : px_run (px_mk (kX12_row X)) 163 ([some (.ref 67), some (.int (v1)), some (.int (v2)), some (.int (v3)), some (.int (v4)), o5], [], (hp M J R c e nL xs D)) =
    px_run (px_mk (kX12_row X)) 173 ([some (.ref 67), some (.int (v1)), some (.int (v2)), some (.int (v3)), some (.int (v4)), none], [], (hp (px_uR M 67 (upd (M 67) 26 ((M 67 26 + 1)))) J R c e nL xs D)) := (px_run_eq _ _ _).trans rfl
set_option maxRecDepth 40000 in
theorem eX12_rowOf_0 (X : px_X) (M : Nat → Nat → Int32) (J : Nat → Nat → Int64) (R : Nat → Nat → Option Nat) (c e : Nat) (nL : Nat) (xs : Nat → Int32) (D : px_H) (v1 : Int32) : px_run (px_mk (kX12_rowOf X)) 0 ([some (.ref 67), some (.int (v1)), none], [], (hp M J R c e nL xs D)) =
    px_run (px_mk (kX12_rowOf X)) 2 ([some (.ref 67), some (.int (v1)), some (.int (0))], [], (hp M J R c e nL xs D)) := (px_run_eq _ _ _).trans rfl
set_option maxRecDepth 40000 in
theorem eX12_rowOf_2 (X : px_X) (M : Nat → Nat → Int32) (J : Nat → Nat → Int64) (R : Nat → Nat → Option Nat) (c e : Nat) (nL : Nat) (xs : Nat → Int32) (D : px_H) (v1 : Int32) (v2 : Int32) : px_run (px_mk (kX12_rowOf X)) 2 ([some (.ref 67), some (.int (v1)), some (.int (v2))], [], (hp M J R c e nL xs D)) =
    cond (decide (M 67 26 ≤ v2))
    (px_run (px_mk (kX12_rowOf X)) 28 ([some (.ref 67), some (.int (v1)), some (.int (v2))], [], (hp M J R c e nL xs D)))
    (cond (px_inb (v2) 8)
    (cond (decide (((M 87) (Int32.toNatClampNeg (v2))) < v1))
    (px_run (px_mk (kX12_rowOf X)) 22 ([some (.ref 67), some (.int (v1)), some (.int (v2))], [], (hp M J R c e nL xs D)))
    (some (some (.int (v2)), (hp M J R c e nL xs D)))) none) := (px_run_eq _ _ _).trans rfl
set_option maxRecDepth 40000 in
theorem eX12_rowOf_28 (X : px_X) (M : Nat → Nat → Int32) (J : Nat → Nat → Int64) (R : Nat → Nat → Option Nat) (c e : Nat) (nL : Nat) (xs : Nat → Int32) (D : px_H) (o0 : Option Value) (o1 : Option Value) (o2 : Option Value) : px_run (px_mk (kX12_rowOf X)) 28 ([o0, o1, o2], [], (hp M J R c e nL xs D)) =
    some (some (.int ((-1))), (hp M J R c e nL xs D)) := (px_run_eq _ _ _).trans rfl
set_option maxRecDepth 40000 in
theorem eX12_rowOf_22 (X : px_X) (M : Nat → Nat → Int32) (J : Nat → Nat → Int64) (R : Nat → Nat → Option Nat) (c e : Nat) (nL : Nat) (xs : Nat → Int32) (D : px_H) (v1 : Int32) (v2 : Int32) : px_run (px_mk (kX12_rowOf X)) 22 ([some (.ref 67), some (.int (v1)), some (.int (v2))], [], (hp M J R c e nL xs D)) =
    px_run (px_mk (kX12_rowOf X)) 2 ([some (.ref 67), some (.int (v1)), some (.int ((v2 + 1)))], [], (hp M J R c e nL xs D)) := (px_run_eq _ _ _).trans rfl
set_option maxRecDepth 40000 in
theorem eX12_restOf_0 (X : px_X) (M : Nat → Nat → Int32) (J : Nat → Nat → Int64) (R : Nat → Nat → Option Nat) (c e : Nat) (nL : Nat) (xs : Nat → Int32) (D : px_H) (v1 : Int32) : px_run (px_mk (kX12_restOf X)) 0 ([some (.ref 67), some (.int (v1)), none], [], (hp M J R c e nL xs D)) =
    px_bd (X 197 [.ref 67, .int (v1)] (hp M J R c e nL xs D))
    (fun v G1 => px_p (kX12_restOf X) 0 3 ([some (.ref 67), some (.int (v1)), none], px_psh v [], G1)) := (px_run_eq _ _ _).trans rfl
set_option maxRecDepth 40000 in
theorem eX12_restOf_0_3 (X : px_X) (M : Nat → Nat → Int32) (J : Nat → Nat → Int64) (R : Nat → Nat → Option Nat) (c e : Nat) (nL : Nat) (xs : Nat → Int32) (D : px_H) (v1 : Int32) (w0 : Int32) : px_p (kX12_restOf X) 0 3 ([some (.ref 67), some (.int (v1)), none], [.int (w0)], (hp M J R c e nL xs D)) =
    cond (decide (¬ w0 = (-1)))
    (px_run (px_mk (kX12_restOf X)) 15 ([some (.ref 67), some (.int (v1)), some (.int (w0))], [], (hp M J R c e nL xs D)))
    (px_run (px_mk (kX12_restOf X)) 21 ([some (.ref 67), some (.int (v1)), some (.int (w0))], [.int (0)], (hp M J R c e nL xs D))) := rfl
set_option maxRecDepth 40000 in
theorem eX12_restOf_15 (X : px_X) (M : Nat → Nat → Int32) (J : Nat → Nat → Int64) (R : Nat → Nat → Option Nat) (c e : Nat) (nL : Nat) (xs : Nat → Int32) (D : px_H) (o1 : Option Value) (v2 : Int32) : px_run (px_mk (kX12_restOf X)) 15 ([some (.ref 67), o1, some (.int (v2))], [], (hp M J R c e nL xs D)) =
    cond (px_inb (v2) 8)
    (px_run (px_mk (kX12_restOf X)) 21 ([some (.ref 67), none, some (.int (v2))], [.int (((M 89) (Int32.toNatClampNeg (v2))))], (hp M J R c e nL xs D))) none := (px_run_eq _ _ _).trans rfl
set_option maxRecDepth 40000 in
theorem eX12_restOf_21 (X : px_X) (M : Nat → Nat → Int32) (J : Nat → Nat → Int64) (R : Nat → Nat → Option Nat) (c e : Nat) (nL : Nat) (xs : Nat → Int32) (D : px_H) (o0 : Option Value) (o1 : Option Value) (o2 : Option Value) (w0 : Int32) : px_run (px_mk (kX12_restOf X)) 21 ([o0, o1, o2], [.int (w0)], (hp M J R c e nL xs D)) =
    some (some (.int (w0)), (hp M J R c e nL xs D)) := (px_run_eq _ _ _).trans rfl
set_option maxRecDepth 40000 in
theorem eX12_isOf_0 (X : px_X) (M : Nat → Nat → Int32) (J : Nat → Nat → Int64) (R : Nat → Nat → Option Nat) (c e : Nat) (nL : Nat) (xs : Nat → Int32) (D : px_H) (v1 : Int32) (v2 : Int32) (v3 : Int32) : px_run (px_mk (kX12_isOf X)) 0 ([some (.ref 67), some (.int (v1)), some (.int (v2)), some (.int (v3))], [], (hp M J R c e nL xs D)) =
    cond (px_inb (v1) 40)
    (cond (decide (((M 90) (Int32.toNatClampNeg (v1))) = v2))
    (px_run (px_mk (kX12_isOf X)) 40 ([some (.ref 67), some (.int (v1)), some (.int (v2)), some (.int (v3))], [], (hp M J R c e nL xs D)))
    (cond (px_inb (v1) 40)
    (cond (decide (((M 91) (Int32.toNatClampNeg (v1))) = v2))
    (px_run (px_mk (kX12_isOf X)) 40 ([some (.ref 67), some (.int (v1)), some (.int (v2)), some (.int (v3))], [], (hp M J R c e nL xs D)))
    (cond (px_inb (v1) 40)
    (cond (decide (((M 90) (Int32.toNatClampNeg (v1))) = v3))
    (px_run (px_mk (kX12_isOf X)) 40 ([some (.ref 67), some (.int (v1)), some (.int (v2)), some (.int (v3))], [], (hp M J R c e nL xs D)))
    (cond (px_inb (v1) 40)
    (cond (decide (¬ ((M 91) (Int32.toNatClampNeg (v1))) = v3))
    (px_run (px_mk (kX12_isOf X)) 44 ([some (.ref 67), some (.int (v1)), some (.int (v2)), some (.int (v3))], [], (hp M J R c e nL xs D)))
    (px_run (px_mk (kX12_isOf X)) 40 ([some (.ref 67), some (.int (v1)), some (.int (v2)), some (.int (v3))], [], (hp M J R c e nL xs D)))) none)) none)) none)) none := (px_run_eq _ _ _).trans rfl
set_option maxRecDepth 40000 in
theorem eX12_isOf_40 (X : px_X) (M : Nat → Nat → Int32) (J : Nat → Nat → Int64) (R : Nat → Nat → Option Nat) (c e : Nat) (nL : Nat) (xs : Nat → Int32) (D : px_H) (o0 : Option Value) (o1 : Option Value) (o2 : Option Value) (o3 : Option Value) : px_run (px_mk (kX12_isOf X)) 40 ([o0, o1, o2, o3], [], (hp M J R c e nL xs D)) =
    px_run (px_mk (kX12_isOf X)) 45 ([none, none, none, none], [.int (1)], (hp M J R c e nL xs D)) := (px_run_eq _ _ _).trans rfl
set_option maxRecDepth 40000 in
theorem eX12_isOf_44 (X : px_X) (M : Nat → Nat → Int32) (J : Nat → Nat → Int64) (R : Nat → Nat → Option Nat) (c e : Nat) (nL : Nat) (xs : Nat → Int32) (D : px_H) (o0 : Option Value) (o1 : Option Value) (o2 : Option Value) (o3 : Option Value) : px_run (px_mk (kX12_isOf X)) 44 ([o0, o1, o2, o3], [], (hp M J R c e nL xs D)) =
    px_run (px_mk (kX12_isOf X)) 45 ([none, none, none, none], [.int (0)], (hp M J R c e nL xs D)) := (px_run_eq _ _ _).trans rfl
set_option maxRecDepth 40000 in
theorem eX12_isOf_45 (X : px_X) (M : Nat → Nat → Int32) (J : Nat → Nat → Int64) (R : Nat → Nat → Option Nat) (c e : Nat) (nL : Nat) (xs : Nat → Int32) (D : px_H) (o0 : Option Value) (o1 : Option Value) (o2 : Option Value) (o3 : Option Value) (w0 : Int32) : px_run (px_mk (kX12_isOf X)) 45 ([o0, o1, o2, o3], [.int (w0)], (hp M J R c e nL xs D)) =
    cond (decide (w0 = 0) || decide (w0 = 1)) (some (some (.int (w0)), (hp M J R c e nL xs D))) none := (px_run_eq _ _ _).trans rfl
set_option maxRecDepth 40000 in
theorem eX12_minutesOn_0 (X : px_X) (M : Nat → Nat → Int32) (J : Nat → Nat → Int64) (R : Nat → Nat → Option Nat) (c e : Nat) (nL : Nat) (xs : Nat → Int32) (D : px_H) (v1 : Int32) (v2 : Int32) : px_run (px_mk (kX12_minutesOn X)) 0 ([some (.ref 67), some (.int (v1)), some (.int (v2)), none, none], [], (hp M J R c e nL xs D)) =
    px_run (px_mk (kX12_minutesOn X)) 5 ([some (.ref 67), some (.int (v1)), some (.int (v2)), some (.int (0)), some (.int (0))], [], (hp M J R c e nL xs D)) := (px_run_eq _ _ _).trans rfl
set_option maxRecDepth 40000 in
theorem eX12_minutesOn_5 (X : px_X) (M : Nat → Nat → Int32) (J : Nat → Nat → Int64) (R : Nat → Nat → Option Nat) (c e : Nat) (nL : Nat) (xs : Nat → Int32) (D : px_H) (v1 : Int32) (v2 : Int32) (v3 : Int32) (v4 : Int32) : px_run (px_mk (kX12_minutesOn X)) 5 ([some (.ref 67), some (.int (v1)), some (.int (v2)), some (.int (v3)), some (.int (v4))], [], (hp M J R c e nL xs D)) =
    cond (decide (M 67 30 ≤ v4))
    (px_run (px_mk (kX12_minutesOn X)) 71 ([some (.ref 67), some (.int (v1)), some (.int (v2)), some (.int (v3)), some (.int (v4))], [], (hp M J R c e nL xs D)))
    (cond (px_inb (v4) 40)
    (cond (decide (((M 90) (Int32.toNatClampNeg (v4))) = v1))
    (px_run (px_mk (kX12_minutesOn X)) 37 ([some (.ref 67), some (.int (v1)), some (.int (v2)), some (.int (v3)), some (.int (v4))], [.int (v3)], (hp M J R c e nL xs D)))
    (cond (px_inb (v4) 40)
    (cond (decide (¬ ((M 91) (Int32.toNatClampNeg (v4))) = v1))
    (px_run (px_mk (kX12_minutesOn X)) 62 ([some (.ref 67), some (.int (v1)), some (.int (v2)), some (.int (v3)), some (.int (v4))], [.int (v3)], (hp M J R c e nL xs D)))
    (px_run (px_mk (kX12_minutesOn X)) 37 ([some (.ref 67), some (.int (v1)), some (.int (v2)), some (.int (v3)), some (.int (v4))], [.int (v3)], (hp M J R c e nL xs D)))) none)) none) := (px_run_eq _ _ _).trans rfl
set_option maxRecDepth 40000 in
theorem eX12_minutesOn_71 (X : px_X) (M : Nat → Nat → Int32) (J : Nat → Nat → Int64) (R : Nat → Nat → Option Nat) (c e : Nat) (nL : Nat) (xs : Nat → Int32) (D : px_H) (o0 : Option Value) (o1 : Option Value) (o2 : Option Value) (v3 : Int32) (o4 : Option Value) : px_run (px_mk (kX12_minutesOn X)) 71 ([o0, o1, o2, some (.int (v3)), o4], [], (hp M J R c e nL xs D)) =
    some (some (.int (v3)), (hp M J R c e nL xs D)) := (px_run_eq _ _ _).trans rfl
set_option maxRecDepth 40000 in
theorem eX12_minutesOn_37 (X : px_X) (M : Nat → Nat → Int32) (J : Nat → Nat → Int64) (R : Nat → Nat → Option Nat) (c e : Nat) (nL : Nat) (xs : Nat → Int32) (D : px_H) (v1 : Int32) (v2 : Int32) (o3 : Option Value) (v4 : Int32) (w0 : Int32) : px_run (px_mk (kX12_minutesOn X)) 37 ([some (.ref 67), some (.int (v1)), some (.int (v2)), o3, some (.int (v4))], [.int (w0)], (hp M J R c e nL xs D)) =
    cond (px_inb (v4) 40)
    (cond (decide (¬ (((M 92) (Int32.toNatClampNeg (v4))) / 1440) = v2))
    (px_run (px_mk (kX12_minutesOn X)) 62 ([some (.ref 67), some (.int (v1)), some (.int (v2)), none, some (.int (v4))], [.int (w0)], (hp M J R c e nL xs D)))
    (cond (px_inb (v4) 40)
    (px_run (px_mk (kX12_minutesOn X)) 63 ([some (.ref 67), some (.int (v1)), some (.int (v2)), none, some (.int (v4))], [.int (((M 94) (Int32.toNatClampNeg (v4)))), .int (w0)], (hp M J R c e nL xs D))) none)) none := (px_run_eq _ _ _).trans rfl
set_option maxRecDepth 40000 in
theorem eX12_minutesOn_62 (X : px_X) (M : Nat → Nat → Int32) (J : Nat → Nat → Int64) (R : Nat → Nat → Option Nat) (c e : Nat) (nL : Nat) (xs : Nat → Int32) (D : px_H) (v1 : Int32) (v2 : Int32) (o3 : Option Value) (v4 : Int32) (w0 : Int32) : px_run (px_mk (kX12_minutesOn X)) 62 ([some (.ref 67), some (.int (v1)), some (.int (v2)), o3, some (.int (v4))], [.int (w0)], (hp M J R c e nL xs D)) =
    px_run (px_mk (kX12_minutesOn X)) 63 ([some (.ref 67), some (.int (v1)), some (.int (v2)), none, some (.int (v4))], [.int (0), .int (w0)], (hp M J R c e nL xs D)) := (px_run_eq _ _ _).trans rfl
set_option maxRecDepth 40000 in
theorem eX12_minutesOn_63 (X : px_X) (M : Nat → Nat → Int32) (J : Nat → Nat → Int64) (R : Nat → Nat → Option Nat) (c e : Nat) (nL : Nat) (xs : Nat → Int32) (D : px_H) (v1 : Int32) (v2 : Int32) (o3 : Option Value) (v4 : Int32) (w0 : Int32) (w1 : Int32) : px_run (px_mk (kX12_minutesOn X)) 63 ([some (.ref 67), some (.int (v1)), some (.int (v2)), o3, some (.int (v4))], [.int (w1), .int (w0)], (hp M J R c e nL xs D)) =
    px_run (px_mk (kX12_minutesOn X)) 5 ([some (.ref 67), some (.int (v1)), some (.int (v2)), some (.int ((w0 + w1))), some (.int ((v4 + 1)))], [], (hp M J R c e nL xs D)) := (px_run_eq _ _ _).trans rfl
set_option maxRecDepth 40000 in
theorem eX12_refused_0 (X : px_X) (M : Nat → Nat → Int32) (J : Nat → Nat → Int64) (R : Nat → Nat → Option Nat) (c e : Nat) (nL : Nat) (xs : Nat → Int32) (D : px_H) (v1 : Int32) (v2 : Int32) (v3 : Int32) (v4 : Int32) (v5 : Int32) : px_run (px_mk (kX12_refused X)) 0 ([some (.ref 67), some (.int (v1)), some (.int (v2)), some (.int (v3)), some (.int (v4)), some (.int (v5)), none], [], (hp M J R c e nL xs D)) =
    px_bd (X 197 [.ref 67, .int (v4)] (hp M J R c e nL xs D))
    (fun v G1 => px_p (kX12_refused X) 0 3 ([some (.ref 67), some (.int (v1)), some (.int (v2)), some (.int (v3)), some (.int (v4)), some (.int (v5)), none], px_psh v [], G1)) := (px_run_eq _ _ _).trans rfl
set_option maxRecDepth 40000 in
theorem eX12_refused_0_3 (X : px_X) (M : Nat → Nat → Int32) (J : Nat → Nat → Int64) (R : Nat → Nat → Option Nat) (c e : Nat) (nL : Nat) (xs : Nat → Int32) (D : px_H) (v1 : Int32) (v2 : Int32) (v3 : Int32) (v4 : Int32) (v5 : Int32) (w0 : Int32) : px_p (kX12_refused X) 0 3 ([some (.ref 67), some (.int (v1)), some (.int (v2)), some (.int (v3)), some (.int (v4)), some (.int (v5)), none], [.int (w0)], (hp M J R c e nL xs D)) =
    cond (decide (¬ w0 = (-1)))
    (px_run (px_mk (kX12_refused X)) 16 ([some (.ref 67), some (.int (v1)), some (.int (v2)), some (.int (v3)), some (.int (v4)), some (.int (v5)), some (.int (w0))], [], (hp M J R c e nL xs D)))
    (some (some (.int (1)), (hp M J R c e nL xs D))) := rfl
set_option maxRecDepth 40000 in
theorem eX12_refused_16 (X : px_X) (M : Nat → Nat → Int32) (J : Nat → Nat → Int64) (R : Nat → Nat → Option Nat) (c e : Nat) (nL : Nat) (xs : Nat → Int32) (D : px_H) (v1 : Int32) (v2 : Int32) (v3 : Int32) (v4 : Int32) (v5 : Int32) (v6 : Int32) : px_run (px_mk (kX12_refused X)) 16 ([some (.ref 67), some (.int (v1)), some (.int (v2)), some (.int (v3)), some (.int (v4)), some (.int (v5)), some (.int (v6))], [], (hp M J R c e nL xs D)) =
    cond (px_inb (v6) 8)
    (cond (decide (v5 ≤ ((M 88) (Int32.toNatClampNeg (v6)))))
    (px_run (px_mk (kX12_refused X)) 32 ([some (.ref 67), some (.int (v1)), some (.int (v2)), some (.int (v3)), some (.int (v4)), some (.int (v5)), some (.int (v6))], [], (hp M J R c e nL xs D)))
    (px_run (px_mk (kX12_refused X)) 43 ([some (.ref 67), some (.int (v1)), some (.int (v2)), some (.int (v3)), some (.int (v4)), some (.int (v5)), some (.int (v6))], [.int (2)], (hp M J R c e nL xs D)))) none := (px_run_eq _ _ _).trans rfl
set_option maxRecDepth 40000 in
theorem eX12_refused_32_7 (X : px_X) (st : px_S) : px_p (kX12_refused X) 32 7 st = px_run (px_mk (kX12_refused X)) 43 st := rfl
set_option maxRecDepth 40000 in
theorem eX12_refused_32 (X : px_X) (M : Nat → Nat → Int32) (J : Nat → Nat → Int64) (R : Nat → Nat → Option Nat) (c e : Nat) (nL : Nat) (xs : Nat → Int32) (D : px_H) (v1 : Int32) (v2 : Int32) (v3 : Int32) (v4 : Int32) (v5 : Int32) (o6 : Option Value) : px_run (px_mk (kX12_refused X)) 32 ([some (.ref 67), some (.int (v1)), some (.int (v2)), some (.int (v3)), some (.int (v4)), some (.int (v5)), o6], [], (hp M J R c e nL xs D)) =
    px_bd (X 202 [.ref 67, .int (v1), .int (v2), .int (v3), .int (v4), .int (v5)] (hp M J R c e nL xs D))
    (fun v G1 => px_p (kX12_refused X) 32 7 ([some (.ref 67), some (.int (v1)), some (.int (v2)), some (.int (v3)), some (.int (v4)), some (.int (v5)), none], px_psh v [], G1)) := (px_run_eq _ _ _).trans rfl
set_option maxRecDepth 40000 in
theorem eX12_refused_43 (X : px_X) (M : Nat → Nat → Int32) (J : Nat → Nat → Int64) (R : Nat → Nat → Option Nat) (c e : Nat) (nL : Nat) (xs : Nat → Int32) (D : px_H) (o0 : Option Value) (o1 : Option Value) (o2 : Option Value) (o3 : Option Value) (o4 : Option Value) (o5 : Option Value) (o6 : Option Value) (w0 : Int32) : px_run (px_mk (kX12_refused X)) 43 ([o0, o1, o2, o3, o4, o5, o6], [.int (w0)], (hp M J R c e nL xs D)) =
    some (some (.int (w0)), (hp M J R c e nL xs D)) := (px_run_eq _ _ _).trans rfl
set_option maxRecDepth 40000 in
theorem eX12_clashes_0 (X : px_X) (M : Nat → Nat → Int32) (J : Nat → Nat → Int64) (R : Nat → Nat → Option Nat) (c e : Nat) (nL : Nat) (xs : Nat → Int32) (D : px_H) (v1 : Int32) (v2 : Int32) (v3 : Int32) (v4 : Int32) (v5 : Int32) : px_run (px_mk (kX12_clashes X)) 0 ([some (.ref 67), some (.int (v1)), some (.int (v2)), some (.int (v3)), some (.int (v4)), some (.int (v5)), none, none, none, none], [], (hp M J R c e nL xs D)) =
    px_run (px_mk (kX12_clashes X)) 6 ([some (.ref 67), some (.int (v1)), some (.int (v2)), some (.int (v3)), some (.int (v4)), some (.int (v5)), some (.int (0)), some (.int (0)), none, none], [], (hp M J R c e nL xs D)) := (px_run_eq _ _ _).trans rfl
set_option maxRecDepth 40000 in
theorem eX12_clashes_6 (X : px_X) (M : Nat → Nat → Int32) (J : Nat → Nat → Int64) (R : Nat → Nat → Option Nat) (c e : Nat) (nL : Nat) (xs : Nat → Int32) (D : px_H) (v1 : Int32) (v2 : Int32) (v3 : Int32) (v4 : Int32) (v5 : Int32) (v6 : Int32) (v7 : Int32) (o8 : Option Value) (o9 : Option Value) : px_run (px_mk (kX12_clashes X)) 6 ([some (.ref 67), some (.int (v1)), some (.int (v2)), some (.int (v3)), some (.int (v4)), some (.int (v5)), some (.int (v6)), some (.int (v7)), o8, o9], [], (hp M J R c e nL xs D)) =
    cond (decide (M 67 30 ≤ v7))
    (px_run (px_mk (kX12_clashes X)) 130 ([some (.ref 67), some (.int (v1)), some (.int (v2)), some (.int (v3)), some (.int (v4)), some (.int (v5)), some (.int (v6)), some (.int (v7)), none, none], [], (hp M J R c e nL xs D)))
    (px_bd (X 199 [.ref 67, .int (v7), .int (v1), .int (v2)] (hp M J R c e nL xs D))
    (fun v G1 => px_p (kX12_clashes X) 6 9 ([some (.ref 67), some (.int (v1)), some (.int (v2)), some (.int (v3)), some (.int (v4)), some (.int (v5)), some (.int (v6)), some (.int (v7)), none, none], px_psh v [], G1))) := (px_run_eq _ _ _).trans rfl
set_option maxRecDepth 40000 in
theorem eX12_clashes_130 (X : px_X) (M : Nat → Nat → Int32) (J : Nat → Nat → Int64) (R : Nat → Nat → Option Nat) (c e : Nat) (nL : Nat) (xs : Nat → Int32) (D : px_H) (v1 : Int32) (v2 : Int32) (v3 : Int32) (o4 : Option Value) (v5 : Int32) (v6 : Int32) (o7 : Option Value) (o8 : Option Value) (o9 : Option Value) : px_run (px_mk (kX12_clashes X)) 130 ([some (.ref 67), some (.int (v1)), some (.int (v2)), some (.int (v3)), o4, some (.int (v5)), some (.int (v6)), o7, o8, o9], [], (hp M J R c e nL xs D)) =
    cond (decide (v6 = 0))
    (px_run (px_mk (kX12_clashes X)) 137 ([some (.ref 67), some (.int (v1)), some (.int (v2)), some (.int (v3)), none, some (.int (v5)), some (.int (v6)), none, none, none], [], (hp M J R c e nL xs D)))
    (some (some (.int (4)), (hp M J R c e nL xs D))) := (px_run_eq _ _ _).trans rfl
set_option maxRecDepth 40000 in
theorem eX12_clashes_6_9 (X : px_X) (M : Nat → Nat → Int32) (J : Nat → Nat → Int64) (R : Nat → Nat → Option Nat) (c e : Nat) (nL : Nat) (xs : Nat → Int32) (D : px_H) (v1 : Int32) (v2 : Int32) (v3 : Int32) (v4 : Int32) (v5 : Int32) (v6 : Int32) (v7 : Int32) (w0 : Int32) : px_p (kX12_clashes X) 6 9 ([some (.ref 67), some (.int (v1)), some (.int (v2)), some (.int (v3)), some (.int (v4)), some (.int (v5)), some (.int (v6)), some (.int (v7)), none, none], [.int (w0)], (hp M J R c e nL xs D)) =
    cond (decide (w0 = 0))
    (px_run (px_mk (kX12_clashes X)) 124 ([some (.ref 67), some (.int (v1)), some (.int (v2)), some (.int (v3)), some (.int (v4)), some (.int (v5)), some (.int (v6)), some (.int (v7)), none, none], [], (hp M J R c e nL xs D)))
    (cond (px_inb (v7) 40)
    (cond (px_inb (v7) 40)
    (cond (px_inb (v7) 40)
    (cond (decide ((((M 92) (Int32.toNatClampNeg (v7))) + ((M 94) (Int32.toNatClampNeg (v7)))) < v3))
    (px_run (px_mk (kX12_clashes X)) 69 ([some (.ref 67), some (.int (v1)), some (.int (v2)), some (.int (v3)), some (.int (v4)), some (.int (v5)), some (.int (v6)), some (.int (v7)), some (.int (((M 92) (Int32.toNatClampNeg (v7))))), some (.int ((((M 92) (Int32.toNatClampNeg (v7))) + ((M 94) (Int32.toNatClampNeg (v7))))))], [], (hp M J R c e nL xs D)))
    (cond (decide ((v3 + v5) < ((M 92) (Int32.toNatClampNeg (v7)))))
    (px_run (px_mk (kX12_clashes X)) 69 ([some (.ref 67), some (.int (v1)), some (.int (v2)), some (.int (v3)), some (.int (v4)), some (.int (v5)), some (.int (v6)), some (.int (v7)), some (.int (((M 92) (Int32.toNatClampNeg (v7))))), some (.int ((((M 92) (Int32.toNatClampNeg (v7))) + ((M 94) (Int32.toNatClampNeg (v7))))))], [], (hp M J R c e nL xs D)))
    (some (some (.int (3)), (hp M J R c e nL xs D))))) none) none) none) := rfl
set_option maxRecDepth 40000 in
theorem eX12_clashes_137 (X : px_X) (M : Nat → Nat → Int32) (J : Nat → Nat → Int64) (R : Nat → Nat → Option Nat) (c e : Nat) (nL : Nat) (xs : Nat → Int32) (D : px_H) (v1 : Int32) (v2 : Int32) (v3 : Int32) (o4 : Option Value) (v5 : Int32) (o6 : Option Value) (o7 : Option Value) (o8 : Option Value) (o9 : Option Value) : px_run (px_mk (kX12_clashes X)) 137 ([some (.ref 67), some (.int (v1)), some (.int (v2)), some (.int (v3)), o4, some (.int (v5)), o6, o7, o8, o9], [], (hp M J R c e nL xs D)) =
    px_bd (X 200 [.ref 67, .int (v1), .int ((v3 / 1440))] (hp M J R c e nL xs D))
    (fun v G1 => px_p (kX12_clashes X) 137 6 ([some (.ref 67), some (.int (v1)), some (.int (v2)), some (.int (v3)), none, some (.int (v5)), none, none, none, none], px_psh v [], G1)) := (px_run_eq _ _ _).trans rfl
set_option maxRecDepth 40000 in
theorem eX12_clashes_124 (X : px_X) (M : Nat → Nat → Int32) (J : Nat → Nat → Int64) (R : Nat → Nat → Option Nat) (c e : Nat) (nL : Nat) (xs : Nat → Int32) (D : px_H) (v1 : Int32) (v2 : Int32) (v3 : Int32) (v4 : Int32) (v5 : Int32) (v6 : Int32) (v7 : Int32) (o8 : Option Value) (o9 : Option Value) : px_run (px_mk (kX12_clashes X)) 124 ([some (.ref 67), some (.int (v1)), some (.int (v2)), some (.int (v3)), some (.int (v4)), some (.int (v5)), some (.int (v6)), some (.int (v7)), o8, o9], [], (hp M J R c e nL xs D)) =
    px_run (px_mk (kX12_clashes X)) 6 ([some (.ref 67), some (.int (v1)), some (.int (v2)), some (.int (v3)), some (.int (v4)), some (.int (v5)), some (.int (v6)), some (.int ((v7 + 1))), none, none], [], (hp M J R c e nL xs D)) := (px_run_eq _ _ _).trans rfl
set_option maxRecDepth 40000 in
theorem eX12_clashes_69 (X : px_X) (M : Nat → Nat → Int32) (J : Nat → Nat → Int64) (R : Nat → Nat → Option Nat) (c e : Nat) (nL : Nat) (xs : Nat → Int32) (D : px_H) (v1 : Int32) (v2 : Int32) (v3 : Int32) (v4 : Int32) (v5 : Int32) (v6 : Int32) (v7 : Int32) (v8 : Int32) (v9 : Int32) : px_run (px_mk (kX12_clashes X)) 69 ([some (.ref 67), some (.int (v1)), some (.int (v2)), some (.int (v3)), some (.int (v4)), some (.int (v5)), some (.int (v6)), some (.int (v7)), some (.int (v8)), some (.int (v9))], [], (hp M J R c e nL xs D)) =
    cond (decide (¬ v6 = 0))
    (px_run (px_mk (kX12_clashes X)) 117 ([some (.ref 67), some (.int (v1)), some (.int (v2)), some (.int (v3)), some (.int (v4)), some (.int (v5)), some (.int (v6)), some (.int (v7)), some (.int (v8)), some (.int (v9))], [], (hp M J R c e nL xs D)))
    (cond (decide (v3 ≤ v8))
    (px_run (px_mk (kX12_clashes X)) 101 ([some (.ref 67), some (.int (v1)), some (.int (v2)), some (.int (v3)), some (.int (v4)), some (.int (v5)), some (.int (v6)), some (.int (v7)), some (.int (v8)), some (.int (v9))], [], (hp M J R c e nL xs D)))
    (cond (px_inb (v7) 40)
    (px_bd (X 198 [.ref 67, .int (((M 93) (Int32.toNatClampNeg (v7))))] (hp M J R c e nL xs D))
    (fun v G1 => px_p (kX12_clashes X) 69 14 ([some (.ref 67), some (.int (v1)), some (.int (v2)), some (.int (v3)), some (.int (v4)), some (.int (v5)), some (.int (v6)), some (.int (v7)), some (.int (v8)), some (.int (v9))], px_psh v [.int ((v3 - v9))], G1))) none)) := (px_run_eq _ _ _).trans rfl
set_option maxRecDepth 40000 in
theorem eX12_clashes_137_6 (X : px_X) (M : Nat → Nat → Int32) (J : Nat → Nat → Int64) (R : Nat → Nat → Option Nat) (c e : Nat) (nL : Nat) (xs : Nat → Int32) (D : px_H) (v1 : Int32) (v2 : Int32) (v3 : Int32) (v5 : Int32) (w0 : Int32) : px_p (kX12_clashes X) 137 6 ([some (.ref 67), some (.int (v1)), some (.int (v2)), some (.int (v3)), none, some (.int (v5)), none, none, none, none], [.int (w0)], (hp M J R c e nL xs D)) =
    cond (decide (120 < (w0 + v5)))
    (px_run (px_mk (kX12_clashes X)) 173 ([some (.ref 67), some (.int (v1)), some (.int (v2)), some (.int (v3)), none, some (.int (v5)), none, none, none, none], [], (hp M J R c e nL xs D)))
    (px_bd (X 200 [.ref 67, .int (v2), .int ((v3 / 1440))] (hp M J R c e nL xs D))
    (fun v G1 => px_p (kX12_clashes X) 137 16 ([some (.ref 67), some (.int (v1)), some (.int (v2)), some (.int (v3)), none, some (.int (v5)), none, none, none, none], px_psh v [], G1))) := rfl
set_option maxRecDepth 40000 in
theorem eX12_clashes_117 (X : px_X) (M : Nat → Nat → Int32) (J : Nat → Nat → Int64) (R : Nat → Nat → Option Nat) (c e : Nat) (nL : Nat) (xs : Nat → Int32) (D : px_H) (v1 : Int32) (v2 : Int32) (v3 : Int32) (v4 : Int32) (v5 : Int32) (o6 : Option Value) (v7 : Int32) (o8 : Option Value) (o9 : Option Value) : px_run (px_mk (kX12_clashes X)) 117 ([some (.ref 67), some (.int (v1)), some (.int (v2)), some (.int (v3)), some (.int (v4)), some (.int (v5)), o6, some (.int (v7)), o8, o9], [], (hp M J R c e nL xs D)) =
    px_run (px_mk (kX12_clashes X)) 122 ([some (.ref 67), some (.int (v1)), some (.int (v2)), some (.int (v3)), some (.int (v4)), some (.int (v5)), none, some (.int (v7)), none, none], [.int (1)], (hp M J R c e nL xs D)) := (px_run_eq _ _ _).trans rfl
set_option maxRecDepth 40000 in
theorem eX12_clashes_101 (X : px_X) (M : Nat → Nat → Int32) (J : Nat → Nat → Int64) (R : Nat → Nat → Option Nat) (c e : Nat) (nL : Nat) (xs : Nat → Int32) (D : px_H) (v1 : Int32) (v2 : Int32) (v3 : Int32) (v4 : Int32) (v5 : Int32) (o6 : Option Value) (v7 : Int32) (v8 : Int32) (o9 : Option Value) : px_run (px_mk (kX12_clashes X)) 101 ([some (.ref 67), some (.int (v1)), some (.int (v2)), some (.int (v3)), some (.int (v4)), some (.int (v5)), o6, some (.int (v7)), some (.int (v8)), o9], [], (hp M J R c e nL xs D)) =
    px_bd (X 198 [.ref 67, .int (v4)] (hp M J R c e nL xs D))
    (fun v G1 => px_p (kX12_clashes X) 101 8 ([some (.ref 67), some (.int (v1)), some (.int (v2)), some (.int (v3)), some (.int (v4)), some (.int (v5)), none, some (.int (v7)), some (.int (v8)), none], px_psh v [.int (((v8 - v3) - v5))], G1)) := (px_run_eq _ _ _).trans rfl
set_option maxRecDepth 40000 in
theorem eX12_clashes_69_14 (X : px_X) (M : Nat → Nat → Int32) (J : Nat → Nat → Int64) (R : Nat → Nat → Option Nat) (c e : Nat) (nL : Nat) (xs : Nat → Int32) (D : px_H) (v1 : Int32) (v2 : Int32) (v3 : Int32) (v4 : Int32) (v5 : Int32) (v6 : Int32) (v7 : Int32) (v8 : Int32) (v9 : Int32) (w0 : Int32) (w1 : Int32) : px_p (kX12_clashes X) 69 14 ([some (.ref 67), some (.int (v1)), some (.int (v2)), some (.int (v3)), some (.int (v4)), some (.int (v5)), some (.int (v6)), some (.int (v7)), some (.int (v8)), some (.int (v9))], [.int (w1), .int (w0)], (hp M J R c e nL xs D)) =
    cond (decide (w1 ≤ w0))
    (px_run (px_mk (kX12_clashes X)) 121 ([some (.ref 67), some (.int (v1)), some (.int (v2)), some (.int (v3)), some (.int (v4)), some (.int (v5)), some (.int (v6)), some (.int (v7)), some (.int (v8)), some (.int (v9))], [], (hp M J R c e nL xs D)))
    (px_run (px_mk (kX12_clashes X)) 117 ([some (.ref 67), some (.int (v1)), some (.int (v2)), some (.int (v3)), some (.int (v4)), some (.int (v5)), some (.int (v6)), some (.int (v7)), some (.int (v8)), some (.int (v9))], [], (hp M J R c e nL xs D))) := rfl
set_option maxRecDepth 40000 in
theorem eX12_clashes_173 (X : px_X) (M : Nat → Nat → Int32) (J : Nat → Nat → Int64) (R : Nat → Nat → Option Nat) (c e : Nat) (nL : Nat) (xs : Nat → Int32) (D : px_H) (o0 : Option Value) (o1 : Option Value) (o2 : Option Value) (o3 : Option Value) (o4 : Option Value) (o5 : Option Value) (o6 : Option Value) (o7 : Option Value) (o8 : Option Value) (o9 : Option Value) : px_run (px_mk (kX12_clashes X)) 173 ([o0, o1, o2, o3, o4, o5, o6, o7, o8, o9], [], (hp M J R c e nL xs D)) =
    px_run (px_mk (kX12_clashes X)) 178 ([none, none, none, none, none, none, none, none, none, none], [.int (5)], (hp M J R c e nL xs D)) := (px_run_eq _ _ _).trans rfl
set_option maxRecDepth 40000 in
theorem eX12_clashes_137_16 (X : px_X) (M : Nat → Nat → Int32) (J : Nat → Nat → Int64) (R : Nat → Nat → Option Nat) (c e : Nat) (nL : Nat) (xs : Nat → Int32) (D : px_H) (v1 : Int32) (v2 : Int32) (v3 : Int32) (v5 : Int32) (w0 : Int32) : px_p (kX12_clashes X) 137 16 ([some (.ref 67), some (.int (v1)), some (.int (v2)), some (.int (v3)), none, some (.int (v5)), none, none, none, none], [.int (w0)], (hp M J R c e nL xs D)) =
    cond (decide ((w0 + v5) ≤ 120))
    (px_run (px_mk (kX12_clashes X)) 177 ([some (.ref 67), some (.int (v1)), some (.int (v2)), some (.int (v3)), none, some (.int (v5)), none, none, none, none], [], (hp M J R c e nL xs D)))
    (px_run (px_mk (kX12_clashes X)) 173 ([some (.ref 67), some (.int (v1)), some (.int (v2)), some (.int (v3)), none, some (.int (v5)), none, none, none, none], [], (hp M J R c e nL xs D))) := rfl
set_option maxRecDepth 40000 in
theorem eX12_clashes_122 (X : px_X) (M : Nat → Nat → Int32) (J : Nat → Nat → Int64) (R : Nat → Nat → Option Nat) (c e : Nat) (nL : Nat) (xs : Nat → Int32) (D : px_H) (v1 : Int32) (v2 : Int32) (v3 : Int32) (v4 : Int32) (v5 : Int32) (o6 : Option Value) (v7 : Int32) (o8 : Option Value) (o9 : Option Value) (w0 : Int32) : px_run (px_mk (kX12_clashes X)) 122 ([some (.ref 67), some (.int (v1)), some (.int (v2)), some (.int (v3)), some (.int (v4)), some (.int (v5)), o6, some (.int (v7)), o8, o9], [.int (w0)], (hp M J R c e nL xs D)) =
    px_run (px_mk (kX12_clashes X)) 124 ([some (.ref 67), some (.int (v1)), some (.int (v2)), some (.int (v3)), some (.int (v4)), some (.int (v5)), some (.int (w0)), some (.int (v7)), none, none], [], (hp M J R c e nL xs D)) := (px_run_eq _ _ _).trans rfl
set_option maxRecDepth 40000 in
theorem eX12_clashes_101_8 (X : px_X) (M : Nat → Nat → Int32) (J : Nat → Nat → Int64) (R : Nat → Nat → Option Nat) (c e : Nat) (nL : Nat) (xs : Nat → Int32) (D : px_H) (v1 : Int32) (v2 : Int32) (v3 : Int32) (v4 : Int32) (v5 : Int32) (v7 : Int32) (v8 : Int32) (w0 : Int32) (w1 : Int32) : px_p (kX12_clashes X) 101 8 ([some (.ref 67), some (.int (v1)), some (.int (v2)), some (.int (v3)), some (.int (v4)), some (.int (v5)), none, some (.int (v7)), some (.int (v8)), none], [.int (w1), .int (w0)], (hp M J R c e nL xs D)) =
    cond (decide (w1 ≤ w0))
    (px_run (px_mk (kX12_clashes X)) 121 ([some (.ref 67), some (.int (v1)), some (.int (v2)), some (.int (v3)), some (.int (v4)), some (.int (v5)), none, some (.int (v7)), some (.int (v8)), none], [], (hp M J R c e nL xs D)))
    (px_run (px_mk (kX12_clashes X)) 117 ([some (.ref 67), some (.int (v1)), some (.int (v2)), some (.int (v3)), some (.int (v4)), some (.int (v5)), none, some (.int (v7)), some (.int (v8)), none], [], (hp M J R c e nL xs D))) := rfl
set_option maxRecDepth 40000 in
theorem eX12_clashes_121 (X : px_X) (M : Nat → Nat → Int32) (J : Nat → Nat → Int64) (R : Nat → Nat → Option Nat) (c e : Nat) (nL : Nat) (xs : Nat → Int32) (D : px_H) (v1 : Int32) (v2 : Int32) (v3 : Int32) (v4 : Int32) (v5 : Int32) (o6 : Option Value) (v7 : Int32) (o8 : Option Value) (o9 : Option Value) : px_run (px_mk (kX12_clashes X)) 121 ([some (.ref 67), some (.int (v1)), some (.int (v2)), some (.int (v3)), some (.int (v4)), some (.int (v5)), o6, some (.int (v7)), o8, o9], [], (hp M J R c e nL xs D)) =
    px_run (px_mk (kX12_clashes X)) 122 ([some (.ref 67), some (.int (v1)), some (.int (v2)), some (.int (v3)), some (.int (v4)), some (.int (v5)), none, some (.int (v7)), none, none], [.int (0)], (hp M J R c e nL xs D)) := (px_run_eq _ _ _).trans rfl
set_option maxRecDepth 40000 in
theorem eX12_clashes_178 (X : px_X) (M : Nat → Nat → Int32) (J : Nat → Nat → Int64) (R : Nat → Nat → Option Nat) (c e : Nat) (nL : Nat) (xs : Nat → Int32) (D : px_H) (o0 : Option Value) (o1 : Option Value) (o2 : Option Value) (o3 : Option Value) (o4 : Option Value) (o5 : Option Value) (o6 : Option Value) (o7 : Option Value) (o8 : Option Value) (o9 : Option Value) (w0 : Int32) : px_run (px_mk (kX12_clashes X)) 178 ([o0, o1, o2, o3, o4, o5, o6, o7, o8, o9], [.int (w0)], (hp M J R c e nL xs D)) =
    some (some (.int (w0)), (hp M J R c e nL xs D)) := (px_run_eq _ _ _).trans rfl
set_option maxRecDepth 40000 in
theorem eX12_clashes_177 (X : px_X) (M : Nat → Nat → Int32) (J : Nat → Nat → Int64) (R : Nat → Nat → Option Nat) (c e : Nat) (nL : Nat) (xs : Nat → Int32) (D : px_H) (o0 : Option Value) (o1 : Option Value) (o2 : Option Value) (o3 : Option Value) (o4 : Option Value) (o5 : Option Value) (o6 : Option Value) (o7 : Option Value) (o8 : Option Value) (o9 : Option Value) : px_run (px_mk (kX12_clashes X)) 177 ([o0, o1, o2, o3, o4, o5, o6, o7, o8, o9], [], (hp M J R c e nL xs D)) =
    px_run (px_mk (kX12_clashes X)) 178 ([none, none, none, none, none, none, none, none, none, none], [.int (0)], (hp M J R c e nL xs D)) := (px_run_eq _ _ _).trans rfl
set_option maxRecDepth 40000 in
theorem eX12_isDive_0 (X : px_X) (M : Nat → Nat → Int32) (J : Nat → Nat → Int64) (R : Nat → Nat → Option Nat) (c e : Nat) (nL : Nat) (xs : Nat → Int32) (D : px_H) (v1 : Int32) (v2 : Int32) (v3 : Int32) (v4 : Int32) (v5 : Int32) : px_run (px_mk (kX12_isDive X)) 0 ([some (.ref 67), some (.int (v1)), some (.int (v2)), some (.int (v3)), some (.int (v4)), some (.int (v5)), none], [], (hp M J R c e nL xs D)) =
    px_bd (X 165 [.int (v1), .int (0), .int ((M 67 25 - 1))] (hp M J R c e nL xs D))
    (fun v G1 => px_p (kX12_isDive X) 0 7 ([some (.ref 67), some (.int (v1)), some (.int (v2)), some (.int (v3)), some (.int (v4)), some (.int (v5)), none], px_psh v [], G1)) := (px_run_eq _ _ _).trans rfl
set_option maxRecDepth 40000 in
theorem eX12_isDive_0_7 (X : px_X) (M : Nat → Nat → Int32) (J : Nat → Nat → Int64) (R : Nat → Nat → Option Nat) (c e : Nat) (nL : Nat) (xs : Nat → Int32) (D : px_H) (v1 : Int32) (v2 : Int32) (v3 : Int32) (v4 : Int32) (v5 : Int32) (w0 : Int32) : px_p (kX12_isDive X) 0 7 ([some (.ref 67), some (.int (v1)), some (.int (v2)), some (.int (v3)), some (.int (v4)), some (.int (v5)), none], [.int (w0)], (hp M J R c e nL xs D)) =
    cond (decide (w0 = 0))
    (px_run (px_mk (kX12_isDive X)) 37 ([some (.ref 67), some (.int (v1)), some (.int (v2)), some (.int (v3)), some (.int (v4)), some (.int (v5)), none], [], (hp M J R c e nL xs D)))
    (px_bd (X 165 [.int (v2), .int (0), .int ((M 67 25 - 1))] (hp M J R c e nL xs D))
    (fun v G1 => px_p (kX12_isDive X) 0 15 ([some (.ref 67), some (.int (v1)), some (.int (v2)), some (.int (v3)), some (.int (v4)), some (.int (v5)), none], px_psh v [], G1))) := rfl
set_option maxRecDepth 40000 in
theorem eX12_isDive_37 (X : px_X) (M : Nat → Nat → Int32) (J : Nat → Nat → Int64) (R : Nat → Nat → Option Nat) (c e : Nat) (nL : Nat) (xs : Nat → Int32) (D : px_H) (o0 : Option Value) (o1 : Option Value) (o2 : Option Value) (v3 : Int32) (v4 : Int32) (v5 : Int32) (o6 : Option Value) : px_run (px_mk (kX12_isDive X)) 37 ([o0, o1, o2, some (.int (v3)), some (.int (v4)), some (.int (v5)), o6], [], (hp M J R c e nL xs D)) =
    px_run (px_mk (kX12_isDive X)) 38 ([none, none, none, some (.int (v3)), some (.int (v4)), some (.int (v5)), none], [.int (0)], (hp M J R c e nL xs D)) := (px_run_eq _ _ _).trans rfl
set_option maxRecDepth 40000 in
theorem eX12_isDive_0_15 (X : px_X) (M : Nat → Nat → Int32) (J : Nat → Nat → Int64) (R : Nat → Nat → Option Nat) (c e : Nat) (nL : Nat) (xs : Nat → Int32) (D : px_H) (v1 : Int32) (v2 : Int32) (v3 : Int32) (v4 : Int32) (v5 : Int32) (w0 : Int32) : px_p (kX12_isDive X) 0 15 ([some (.ref 67), some (.int (v1)), some (.int (v2)), some (.int (v3)), some (.int (v4)), some (.int (v5)), none], [.int (w0)], (hp M J R c e nL xs D)) =
    cond (decide (w0 = 0))
    (px_run (px_mk (kX12_isDive X)) 37 ([some (.ref 67), some (.int (v1)), some (.int (v2)), some (.int (v3)), some (.int (v4)), some (.int (v5)), none], [], (hp M J R c e nL xs D)))
    (cond (decide (v1 = v2))
    (px_run (px_mk (kX12_isDive X)) 37 ([some (.ref 67), some (.int (v1)), some (.int (v2)), some (.int (v3)), some (.int (v4)), some (.int (v5)), none], [], (hp M J R c e nL xs D)))
    (px_run (px_mk (kX12_isDive X)) 38 ([some (.ref 67), some (.int (v1)), some (.int (v2)), some (.int (v3)), some (.int (v4)), some (.int (v5)), none], [.int (1)], (hp M J R c e nL xs D)))) := rfl
set_option maxRecDepth 40000 in
theorem eX12_isDive_38 (X : px_X) (M : Nat → Nat → Int32) (J : Nat → Nat → Int64) (R : Nat → Nat → Option Nat) (c e : Nat) (nL : Nat) (xs : Nat → Int32) (D : px_H) (o0 : Option Value) (o1 : Option Value) (o2 : Option Value) (v3 : Int32) (v4 : Int32) (v5 : Int32) (o6 : Option Value) (w0 : Int32) : px_run (px_mk (kX12_isDive X)) 38 ([o0, o1, o2, some (.int (v3)), some (.int (v4)), some (.int (v5)), o6], [.int (w0)], (hp M J R c e nL xs D)) =
    cond (decide (w0 = 0))
    (px_run (px_mk (kX12_isDive X)) 83 ([none, none, none, some (.int (v3)), some (.int (v4)), some (.int (v5)), some (.int (w0))], [], (hp M J R c e nL xs D)))
    (px_bd (X 165 [.int (v3), .int (0), .int (1439999)] (hp M J R c e nL xs D))
    (fun v G1 => px_p (kX12_isDive X) 38 7 ([none, none, none, some (.int (v3)), some (.int (v4)), some (.int (v5)), some (.int (w0))], px_psh v [], G1))) := (px_run_eq _ _ _).trans rfl
set_option maxRecDepth 40000 in
theorem eX12_isDive_83 (X : px_X) (M : Nat → Nat → Int32) (J : Nat → Nat → Int64) (R : Nat → Nat → Option Nat) (c e : Nat) (nL : Nat) (xs : Nat → Int32) (D : px_H) (o0 : Option Value) (o1 : Option Value) (o2 : Option Value) (o3 : Option Value) (o4 : Option Value) (o5 : Option Value) (o6 : Option Value) : px_run (px_mk (kX12_isDive X)) 83 ([o0, o1, o2, o3, o4, o5, o6], [], (hp M J R c e nL xs D)) =
    px_run (px_mk (kX12_isDive X)) 84 ([none, none, none, none, none, none, none], [.int (0)], (hp M J R c e nL xs D)) := (px_run_eq _ _ _).trans rfl
set_option maxRecDepth 40000 in
theorem eX12_isDive_38_7 (X : px_X) (M : Nat → Nat → Int32) (J : Nat → Nat → Int64) (R : Nat → Nat → Option Nat) (c e : Nat) (nL : Nat) (xs : Nat → Int32) (D : px_H) (v3 : Int32) (v4 : Int32) (v5 : Int32) (v6 : Int32) (w0 : Int32) : px_p (kX12_isDive X) 38 7 ([none, none, none, some (.int (v3)), some (.int (v4)), some (.int (v5)), some (.int (v6))], [.int (w0)], (hp M J R c e nL xs D)) =
    cond (decide (w0 = 0))
    (px_run (px_mk (kX12_isDive X)) 83 ([none, none, none, some (.int (v3)), some (.int (v4)), some (.int (v5)), some (.int (v6))], [], (hp M J R c e nL xs D)))
    (px_bd (X 165 [.int (v4), .int (1), .int (90)] (hp M J R c e nL xs D))
    (fun v G1 => px_p (kX12_isDive X) 38 12 ([none, none, none, some (.int (v3)), some (.int (v4)), some (.int (v5)), some (.int (v6))], px_psh v [], G1))) := rfl
set_option maxRecDepth 40000 in
theorem eX12_isDive_84 (X : px_X) (M : Nat → Nat → Int32) (J : Nat → Nat → Int64) (R : Nat → Nat → Option Nat) (c e : Nat) (nL : Nat) (xs : Nat → Int32) (D : px_H) (o0 : Option Value) (o1 : Option Value) (o2 : Option Value) (o3 : Option Value) (o4 : Option Value) (o5 : Option Value) (o6 : Option Value) (w0 : Int32) : px_run (px_mk (kX12_isDive X)) 84 ([o0, o1, o2, o3, o4, o5, o6], [.int (w0)], (hp M J R c e nL xs D)) =
    cond (decide (w0 = 0) || decide (w0 = 1)) (some (some (.int (w0)), (hp M J R c e nL xs D))) none := (px_run_eq _ _ _).trans rfl
set_option maxRecDepth 40000 in
theorem eX12_isDive_38_12 (X : px_X) (M : Nat → Nat → Int32) (J : Nat → Nat → Int64) (R : Nat → Nat → Option Nat) (c e : Nat) (nL : Nat) (xs : Nat → Int32) (D : px_H) (v3 : Int32) (v4 : Int32) (v5 : Int32) (v6 : Int32) (w0 : Int32) : px_p (kX12_isDive X) 38 12 ([none, none, none, some (.int (v3)), some (.int (v4)), some (.int (v5)), some (.int (v6))], [.int (w0)], (hp M J R c e nL xs D)) =
    cond (decide (w0 = 0))
    (px_run (px_mk (kX12_isDive X)) 83 ([none, none, none, some (.int (v3)), some (.int (v4)), some (.int (v5)), some (.int (v6))], [], (hp M J R c e nL xs D)))
    (px_bd (X 165 [.int (v5), .int (1), .int (200)] (hp M J R c e nL xs D))
    (fun v G1 => px_p (kX12_isDive X) 38 17 ([none, none, none, some (.int (v3)), some (.int (v4)), some (.int (v5)), some (.int (v6))], px_psh v [], G1))) := rfl
set_option maxRecDepth 40000 in
theorem eX12_isDive_38_17 (X : px_X) (M : Nat → Nat → Int32) (J : Nat → Nat → Int64) (R : Nat → Nat → Option Nat) (c e : Nat) (nL : Nat) (xs : Nat → Int32) (D : px_H) (v3 : Int32) (v4 : Int32) (v5 : Int32) (v6 : Int32) (w0 : Int32) : px_p (kX12_isDive X) 38 17 ([none, none, none, some (.int (v3)), some (.int (v4)), some (.int (v5)), some (.int (v6))], [.int (w0)], (hp M J R c e nL xs D)) =
    cond (decide (w0 = 0))
    (px_run (px_mk (kX12_isDive X)) 83 ([none, none, none, some (.int (v3)), some (.int (v4)), some (.int (v5)), some (.int (v6))], [], (hp M J R c e nL xs D)))
    (px_run (px_mk (kX12_isDive X)) 84 ([none, none, none, some (.int (v3)), some (.int (v4)), some (.int (v5)), some (.int (v6))], [.int (1)], (hp M J R c e nL xs D))) := rfl
set_option maxRecDepth 40000 in
theorem eX12_dive_0 (X : px_X) (M : Nat → Nat → Int32) (J : Nat → Nat → Int64) (R : Nat → Nat → Option Nat) (c e : Nat) (nL : Nat) (xs : Nat → Int32) (D : px_H) (v1 : Int32) (v2 : Int32) (v3 : Int32) (v4 : Int32) (v5 : Int32) : px_run (px_mk (kX12_dive X)) 0 ([some (.ref 67), some (.int (v1)), some (.int (v2)), some (.int (v3)), some (.int (v4)), some (.int (v5)), none], [], (hp M J R c e nL xs D)) =
    px_bd (X 203 [.ref 67, .int (v1), .int (v2), .int (v3), .int (v4), .int (v5)] (hp M J R c e nL xs D))
    (fun v G1 => px_p (kX12_dive X) 0 7 ([some (.ref 67), some (.int (v1)), some (.int (v2)), some (.int (v3)), some (.int (v4)), some (.int (v5)), none], px_psh v [], G1)) := (px_run_eq _ _ _).trans rfl
set_option maxRecDepth 40000 in
theorem eX12_dive_0_7 (X : px_X) (M : Nat → Nat → Int32) (J : Nat → Nat → Int64) (R : Nat → Nat → Option Nat) (c e : Nat) (nL : Nat) (xs : Nat → Int32) (D : px_H) (v1 : Int32) (v2 : Int32) (v3 : Int32) (v4 : Int32) (v5 : Int32) (w0 : Int32) : px_p (kX12_dive X) 0 7 ([some (.ref 67), some (.int (v1)), some (.int (v2)), some (.int (v3)), some (.int (v4)), some (.int (v5)), none], [.int (w0)], (hp M J R c e nL xs D)) =
    cond (decide (¬ w0 = 0))
    (px_run (px_mk (kX12_dive X)) 17 ([some (.ref 67), some (.int (v1)), some (.int (v2)), some (.int (v3)), some (.int (v4)), some (.int (v5)), none], [], (hp M J R c e nL xs D)))
    (some (some (.int ((-2))), (hp M J R c e nL xs D))) := rfl
set_option maxRecDepth 40000 in
theorem eX12_dive_17 (X : px_X) (M : Nat → Nat → Int32) (J : Nat → Nat → Int64) (R : Nat → Nat → Option Nat) (c e : Nat) (nL : Nat) (xs : Nat → Int32) (D : px_H) (v1 : Int32) (v2 : Int32) (v3 : Int32) (v4 : Int32) (v5 : Int32) (o6 : Option Value) : px_run (px_mk (kX12_dive X)) 17 ([some (.ref 67), some (.int (v1)), some (.int (v2)), some (.int (v3)), some (.int (v4)), some (.int (v5)), o6], [], (hp M J R c e nL xs D)) =
    px_bd (X 201 [.ref 67, .int (v1), .int (v2), .int (v3), .int (v4), .int (v5)] (hp M J R c e nL xs D))
    (fun v G1 => px_p (kX12_dive X) 17 7 ([some (.ref 67), some (.int (v1)), some (.int (v2)), some (.int (v3)), some (.int (v4)), some (.int (v5)), none], px_psh v [], G1)) := (px_run_eq _ _ _).trans rfl
set_option maxRecDepth 40000 in
theorem eX12_dive_17_7 (X : px_X) (M : Nat → Nat → Int32) (J : Nat → Nat → Int64) (R : Nat → Nat → Option Nat) (c e : Nat) (nL : Nat) (xs : Nat → Int32) (D : px_H) (v1 : Int32) (v2 : Int32) (v3 : Int32) (v4 : Int32) (v5 : Int32) (w0 : Int32) : px_p (kX12_dive X) 17 7 ([some (.ref 67), some (.int (v1)), some (.int (v2)), some (.int (v3)), some (.int (v4)), some (.int (v5)), none], [.int (w0)], (hp M J R c e nL xs D)) =
    cond (decide (w0 = 0))
    (px_run (px_mk (kX12_dive X)) 41 ([some (.ref 67), some (.int (v1)), some (.int (v2)), some (.int (v3)), some (.int (v4)), some (.int (v5)), some (.int (w0))], [], (hp M J R c e nL xs D)))
    (some (some (.int (((-20) - w0))), (hp M J R c e nL xs D))) := rfl
set_option maxRecDepth 40000 in
theorem eX12_dive_41 (X : px_X) (M : Nat → Nat → Int32) (J : Nat → Nat → Int64) (R : Nat → Nat → Option Nat) (c e : Nat) (nL : Nat) (xs : Nat → Int32) (D : px_H) (v1 : Int32) (v2 : Int32) (v3 : Int32) (v4 : Int32) (v5 : Int32) (o6 : Option Value) : px_run (px_mk (kX12_dive X)) 41 ([some (.ref 67), some (.int (v1)), some (.int (v2)), some (.int (v3)), some (.int (v4)), some (.int (v5)), o6], [], (hp M J R c e nL xs D)) =
    cond (decide (¬ M 67 30 = 40))
    (px_run (px_mk (kX12_dive X)) 53 ([some (.ref 67), some (.int (v1)), some (.int (v2)), some (.int (v3)), some (.int (v4)), some (.int (v5)), none], [], (hp M J R c e nL xs D)))
    (some (some (.int ((-4))), (hp M J R c e nL xs D))) := (px_run_eq _ _ _).trans rfl
set_option maxRecDepth 40000 in
theorem eX12_dive_53 (X : px_X) (M : Nat → Nat → Int32) (J : Nat → Nat → Int64) (R : Nat → Nat → Option Nat) (c e : Nat) (nL : Nat) (xs : Nat → Int32) (D : px_H) (v1 : Int32) (v2 : Int32) (v3 : Int32) (v4 : Int32) (v5 : Int32) (o6 : Option Value) : px_run (px_mk (kX12_dive X)) 53 ([some (.ref 67), some (.int (v1)), some (.int (v2)), some (.int (v3)), some (.int (v4)), some (.int (v5)), o6], [], (hp M J R c e nL xs D)) =
    cond (px_inb (M 67 30) 40)
    (cond (px_inb (M 67 30) 40)
    (cond (px_inb (M 67 30) 40)
    (cond (px_inb (M 67 30) 40)
    (cond (px_inb (M 67 30) 40)
    (some (some (.int (((M 67 30 + 1) - 1))), (hp (px_uR (px_uR (px_uR (px_uR (px_uR (px_uR M 90 (upd (M 90) (Int32.toNatClampNeg (M 67 30)) (v1))) 91 (upd (M 91) (Int32.toNatClampNeg (M 67 30)) (v2))) 92 (upd (M 92) (Int32.toNatClampNeg (M 67 30)) (v3))) 93 (upd (M 93) (Int32.toNatClampNeg (M 67 30)) (v4))) 94 (upd (M 94) (Int32.toNatClampNeg (M 67 30)) (v5))) 67 (upd (M 67) 30 ((M 67 30 + 1)))) J R c e nL xs D))) none) none) none) none) none := (px_run_eq _ _ _).trans rfl
set_option maxRecDepth 40000 in
theorem eX12_cancel_0 (X : px_X) (M : Nat → Nat → Int32) (J : Nat → Nat → Int64) (R : Nat → Nat → Option Nat) (c e : Nat) (nL : Nat) (xs : Nat → Int32) (D : px_H)  : px_run (px_mk (kX12_cancel X)) 0 ([some (.ref 67)], [], (hp M J R c e nL xs D)) =
    cond (decide (¬ M 67 30 = 0))
    (px_run (px_mk (kX12_cancel X)) 10 ([some (.ref 67)], [], (hp M J R c e nL xs D)))
    (some (some (.int ((-3))), (hp M J R c e nL xs D))) := (px_run_eq _ _ _).trans rfl
set_option maxRecDepth 40000 in
theorem eX12_cancel_10 (X : px_X) (M : Nat → Nat → Int32) (J : Nat → Nat → Int64) (R : Nat → Nat → Option Nat) (c e : Nat) (nL : Nat) (xs : Nat → Int32) (D : px_H)  : px_run (px_mk (kX12_cancel X)) 10 ([some (.ref 67)], [], (hp M J R c e nL xs D)) =
    some (some (.int ((M 67 30 - 1))), (hp (px_uR M 67 (upd (M 67) 30 ((M 67 30 - 1)))) J R c e nL xs D)) := (px_run_eq _ _ _).trans rfl
set_option maxRecDepth 40000 in
theorem eX12_under_0 (X : px_X) (M : Nat → Nat → Int32) (J : Nat → Nat → Int64) (R : Nat → Nat → Option Nat) (c e : Nat) (nL : Nat) (xs : Nat → Int32) (D : px_H) (v1 : Int32) (v2 : Int32) : px_run (px_mk (kX12_under X)) 0 ([some (.ref 67), some (.int (v1)), some (.int (v2))], [], (hp M J R c e nL xs D)) =
    px_bd (X 165 [.int (v1), .int (0), .int ((M 67 25 - 1))] (hp M J R c e nL xs D))
    (fun v G1 => px_p (kX12_under X) 0 7 ([some (.ref 67), some (.int (v1)), some (.int (v2))], px_psh v [], G1)) := (px_run_eq _ _ _).trans rfl
set_option maxRecDepth 40000 in
theorem eX12_under_0_7 (X : px_X) (M : Nat → Nat → Int32) (J : Nat → Nat → Int64) (R : Nat → Nat → Option Nat) (c e : Nat) (nL : Nat) (xs : Nat → Int32) (D : px_H) (v1 : Int32) (v2 : Int32) (w0 : Int32) : px_p (kX12_under X) 0 7 ([some (.ref 67), some (.int (v1)), some (.int (v2))], [.int (w0)], (hp M J R c e nL xs D)) =
    cond (decide (w0 = 0))
    (px_run (px_mk (kX12_under X)) 30 ([some (.ref 67), some (.int (v1)), some (.int (v2))], [], (hp M J R c e nL xs D)))
    (px_bd (X 168 [.int (v2)] (hp M J R c e nL xs D))
    (fun v G1 => px_p (kX12_under X) 0 10 ([some (.ref 67), some (.int (v1)), some (.int (v2))], px_psh v [], G1))) := rfl
set_option maxRecDepth 40000 in
theorem eX12_under_30 (X : px_X) (M : Nat → Nat → Int32) (J : Nat → Nat → Int64) (R : Nat → Nat → Option Nat) (c e : Nat) (nL : Nat) (xs : Nat → Int32) (D : px_H) (o0 : Option Value) (o1 : Option Value) (o2 : Option Value) : px_run (px_mk (kX12_under X)) 30 ([o0, o1, o2], [], (hp M J R c e nL xs D)) =
    px_run (px_mk (kX12_under X)) 32 ([none, none, none], [.int ((-2))], (hp M J R c e nL xs D)) := (px_run_eq _ _ _).trans rfl
set_option maxRecDepth 40000 in
theorem eX12_under_0_10 (X : px_X) (M : Nat → Nat → Int32) (J : Nat → Nat → Int64) (R : Nat → Nat → Option Nat) (c e : Nat) (nL : Nat) (xs : Nat → Int32) (D : px_H) (v1 : Int32) (v2 : Int32) (w0 : Int32) : px_p (kX12_under X) 0 10 ([some (.ref 67), some (.int (v1)), some (.int (v2))], [.int (w0)], (hp M J R c e nL xs D)) =
    cond (decide (w0 = 0))
    (px_run (px_mk (kX12_under X)) 30 ([some (.ref 67), some (.int (v1)), some (.int (v2))], [], (hp M J R c e nL xs D)))
    (px_bd (X 200 [.ref 67, .int (v1), .int (v2)] (hp M J R c e nL xs D))
    (fun v G1 => px_p (kX12_under X) 0 15 ([some (.ref 67), some (.int (v1)), some (.int (v2))], px_psh v [], G1))) := rfl
set_option maxRecDepth 40000 in
theorem eX12_under_32 (X : px_X) (M : Nat → Nat → Int32) (J : Nat → Nat → Int64) (R : Nat → Nat → Option Nat) (c e : Nat) (nL : Nat) (xs : Nat → Int32) (D : px_H) (o0 : Option Value) (o1 : Option Value) (o2 : Option Value) (w0 : Int32) : px_run (px_mk (kX12_under X)) 32 ([o0, o1, o2], [.int (w0)], (hp M J R c e nL xs D)) =
    some (some (.int (w0)), (hp M J R c e nL xs D)) := (px_run_eq _ _ _).trans rfl
set_option maxRecDepth 40000 in
theorem eX12_under_0_15 (X : px_X) (M : Nat → Nat → Int32) (J : Nat → Nat → Int64) (R : Nat → Nat → Option Nat) (c e : Nat) (nL : Nat) (xs : Nat → Int32) (D : px_H) (v1 : Int32) (v2 : Int32) (w0 : Int32) : px_p (kX12_under X) 0 15 ([some (.ref 67), some (.int (v1)), some (.int (v2))], [.int (w0)], (hp M J R c e nL xs D)) =
    px_run (px_mk (kX12_under X)) 32 ([some (.ref 67), some (.int (v1)), some (.int (v2))], [.int (w0)], (hp M J R c e nL xs D)) := rfl
set_option maxRecDepth 40000 in
theorem eX12_soonest_0 (X : px_X) (M : Nat → Nat → Int32) (J : Nat → Nat → Int64) (R : Nat → Nat → Option Nat) (c e : Nat) (nL : Nat) (xs : Nat → Int32) (D : px_H) (v1 : Int32) (v2 : Int32) (v3 : Int32) (v4 : Int32) (v5 : Int32) : px_run (px_mk (kX12_soonest X)) 0 ([some (.ref 67), some (.int (v1)), some (.int (v2)), some (.int (v3)), some (.int (v4)), some (.int (v5)), none], [], (hp M J R c e nL xs D)) =
    px_bd (X 203 [.ref 67, .int (v1), .int (v2), .int (v3), .int (v4), .int (v5)] (hp M J R c e nL xs D))
    (fun v G1 => px_p (kX12_soonest X) 0 7 ([some (.ref 67), some (.int (v1)), some (.int (v2)), some (.int (v3)), some (.int (v4)), some (.int (v5)), none], px_psh v [], G1)) := (px_run_eq _ _ _).trans rfl
set_option maxRecDepth 40000 in
theorem eX12_soonest_0_7 (X : px_X) (M : Nat → Nat → Int32) (J : Nat → Nat → Int64) (R : Nat → Nat → Option Nat) (c e : Nat) (nL : Nat) (xs : Nat → Int32) (D : px_H) (v1 : Int32) (v2 : Int32) (v3 : Int32) (v4 : Int32) (v5 : Int32) (w0 : Int32) : px_p (kX12_soonest X) 0 7 ([some (.ref 67), some (.int (v1)), some (.int (v2)), some (.int (v3)), some (.int (v4)), some (.int (v5)), none], [.int (w0)], (hp M J R c e nL xs D)) =
    cond (decide (¬ w0 = 0))
    (px_run (px_mk (kX12_soonest X)) 17 ([some (.ref 67), some (.int (v1)), some (.int (v2)), some (.int (v3)), some (.int (v4)), some (.int (v5)), none], [], (hp M J R c e nL xs D)))
    (some (some (.int ((-2))), (hp M J R c e nL xs D))) := rfl
set_option maxRecDepth 40000 in
theorem eX12_soonest_17 (X : px_X) (M : Nat → Nat → Int32) (J : Nat → Nat → Int64) (R : Nat → Nat → Option Nat) (c e : Nat) (nL : Nat) (xs : Nat → Int32) (D : px_H) (v1 : Int32) (v2 : Int32) (v3 : Int32) (v4 : Int32) (v5 : Int32) (o6 : Option Value) : px_run (px_mk (kX12_soonest X)) 17 ([some (.ref 67), some (.int (v1)), some (.int (v2)), some (.int (v3)), some (.int (v4)), some (.int (v5)), o6], [], (hp M J R c e nL xs D)) =
    px_bd (X 201 [.ref 67, .int (v1), .int (v2), .int (v3), .int (v4), .int (v5)] (hp M J R c e nL xs D))
    (fun v G1 => px_p (kX12_soonest X) 17 7 ([some (.ref 67), some (.int (v1)), some (.int (v2)), some (.int (v3)), some (.int (v4)), some (.int (v5)), none], px_psh v [], G1)) := (px_run_eq _ _ _).trans rfl
set_option maxRecDepth 40000 in
theorem eX12_soonest_17_7 (X : px_X) (M : Nat → Nat → Int32) (J : Nat → Nat → Int64) (R : Nat → Nat → Option Nat) (c e : Nat) (nL : Nat) (xs : Nat → Int32) (D : px_H) (v1 : Int32) (v2 : Int32) (v3 : Int32) (v4 : Int32) (v5 : Int32) (w0 : Int32) : px_p (kX12_soonest X) 17 7 ([some (.ref 67), some (.int (v1)), some (.int (v2)), some (.int (v3)), some (.int (v4)), some (.int (v5)), none], [.int (w0)], (hp M J R c e nL xs D)) =
    px_bd (X 165 [.int (w0), .int (1), .int (2)] (hp M J R c e nL xs D))
    (fun v G1 => px_p (kX12_soonest X) 17 10 ([some (.ref 67), some (.int (v1)), some (.int (v2)), some (.int (v3)), some (.int (v4)), some (.int (v5)), none], px_psh v [], G1)) := rfl
set_option maxRecDepth 40000 in
theorem eX12_soonest_17_10 (X : px_X) (M : Nat → Nat → Int32) (J : Nat → Nat → Int64) (R : Nat → Nat → Option Nat) (c e : Nat) (nL : Nat) (xs : Nat → Int32) (D : px_H) (v1 : Int32) (v2 : Int32) (v3 : Int32) (v4 : Int32) (v5 : Int32) (w0 : Int32) : px_p (kX12_soonest X) 17 10 ([some (.ref 67), some (.int (v1)), some (.int (v2)), some (.int (v3)), some (.int (v4)), some (.int (v5)), none], [.int (w0)], (hp M J R c e nL xs D)) =
    cond (decide (w0 = 0))
    (px_run (px_mk (kX12_soonest X)) 38 ([some (.ref 67), some (.int (v1)), some (.int (v2)), some (.int (v3)), some (.int (v4)), some (.int (v5)), none], [], (hp M J R c e nL xs D)))
    (some (some (.int ((-1))), (hp M J R c e nL xs D))) := rfl
set_option maxRecDepth 40000 in
theorem eX12_soonest_38 (X : px_X) (M : Nat → Nat → Int32) (J : Nat → Nat → Int64) (R : Nat → Nat → Option Nat) (c e : Nat) (nL : Nat) (xs : Nat → Int32) (D : px_H) (v1 : Int32) (v2 : Int32) (v3 : Int32) (v4 : Int32) (v5 : Int32) (o6 : Option Value) : px_run (px_mk (kX12_soonest X)) 38 ([some (.ref 67), some (.int (v1)), some (.int (v2)), some (.int (v3)), some (.int (v4)), some (.int (v5)), o6], [], (hp M J R c e nL xs D)) =
    px_run (px_mk (kX12_soonest X)) 41 ([some (.ref 67), some (.int (v1)), some (.int (v2)), some (.int (v3)), some (.int (v4)), some (.int (v5)), some (.int (v3))], [], (hp M J R c e nL xs D)) := (px_run_eq _ _ _).trans rfl
set_option maxRecDepth 40000 in
theorem eX12_soonest_41 (X : px_X) (M : Nat → Nat → Int32) (J : Nat → Nat → Int64) (R : Nat → Nat → Option Nat) (c e : Nat) (nL : Nat) (xs : Nat → Int32) (D : px_H) (v1 : Int32) (v2 : Int32) (v3 : Int32) (v4 : Int32) (v5 : Int32) (v6 : Int32) : px_run (px_mk (kX12_soonest X)) 41 ([some (.ref 67), some (.int (v1)), some (.int (v2)), some (.int (v3)), some (.int (v4)), some (.int (v5)), some (.int (v6))], [], (hp M J R c e nL xs D)) =
    cond (decide ((v3 + 10080) < v6))
    (px_run (px_mk (kX12_soonest X)) 83 ([some (.ref 67), some (.int (v1)), some (.int (v2)), some (.int (v3)), some (.int (v4)), some (.int (v5)), some (.int (v6))], [], (hp M J R c e nL xs D)))
    (cond (decide (1440000 ≤ v6))
    (px_run (px_mk (kX12_soonest X)) 83 ([some (.ref 67), some (.int (v1)), some (.int (v2)), some (.int (v3)), some (.int (v4)), some (.int (v5)), some (.int (v6))], [], (hp M J R c e nL xs D)))
    (px_bd (X 202 [.ref 67, .int (v1), .int (v2), .int (v6), .int (v4), .int (v5)] (hp M J R c e nL xs D))
    (fun v G1 => px_p (kX12_soonest X) 41 15 ([some (.ref 67), some (.int (v1)), some (.int (v2)), some (.int (v3)), some (.int (v4)), some (.int (v5)), some (.int (v6))], px_psh v [], G1)))) := (px_run_eq _ _ _).trans rfl
set_option maxRecDepth 40000 in
theorem eX12_soonest_83 (X : px_X) (M : Nat → Nat → Int32) (J : Nat → Nat → Int64) (R : Nat → Nat → Option Nat) (c e : Nat) (nL : Nat) (xs : Nat → Int32) (D : px_H) (o0 : Option Value) (o1 : Option Value) (o2 : Option Value) (o3 : Option Value) (o4 : Option Value) (o5 : Option Value) (o6 : Option Value) : px_run (px_mk (kX12_soonest X)) 83 ([o0, o1, o2, o3, o4, o5, o6], [], (hp M J R c e nL xs D)) =
    some (some (.int ((-1))), (hp M J R c e nL xs D)) := (px_run_eq _ _ _).trans rfl
set_option maxRecDepth 40000 in
theorem eX12_soonest_41_15 (X : px_X) (M : Nat → Nat → Int32) (J : Nat → Nat → Int64) (R : Nat → Nat → Option Nat) (c e : Nat) (nL : Nat) (xs : Nat → Int32) (D : px_H) (v1 : Int32) (v2 : Int32) (v3 : Int32) (v4 : Int32) (v5 : Int32) (v6 : Int32) (w0 : Int32) : px_p (kX12_soonest X) 41 15 ([some (.ref 67), some (.int (v1)), some (.int (v2)), some (.int (v3)), some (.int (v4)), some (.int (v5)), some (.int (v6))], [.int (w0)], (hp M J R c e nL xs D)) =
    cond (decide (¬ w0 = 0))
    (px_run (px_mk (kX12_soonest X)) 77 ([some (.ref 67), some (.int (v1)), some (.int (v2)), some (.int (v3)), some (.int (v4)), some (.int (v5)), some (.int (v6))], [], (hp M J R c e nL xs D)))
    (some (some (.int (v6)), (hp M J R c e nL xs D))) := rfl
set_option maxRecDepth 40000 in
theorem eX12_soonest_77 (X : px_X) (M : Nat → Nat → Int32) (J : Nat → Nat → Int64) (R : Nat → Nat → Option Nat) (c e : Nat) (nL : Nat) (xs : Nat → Int32) (D : px_H) (v1 : Int32) (v2 : Int32) (v3 : Int32) (v4 : Int32) (v5 : Int32) (v6 : Int32) : px_run (px_mk (kX12_soonest X)) 77 ([some (.ref 67), some (.int (v1)), some (.int (v2)), some (.int (v3)), some (.int (v4)), some (.int (v5)), some (.int (v6))], [], (hp M J R c e nL xs D)) =
    px_run (px_mk (kX12_soonest X)) 41 ([some (.ref 67), some (.int (v1)), some (.int (v2)), some (.int (v3)), some (.int (v4)), some (.int (v5)), some (.int ((v6 + 1)))], [], (hp M J R c e nL xs D)) := (px_run_eq _ _ _).trans rfl
set_option maxRecDepth 40000 in
theorem eX12_byteAt_0 (X : px_X) (M : Nat → Nat → Int32) (J : Nat → Nat → Int64) (R : Nat → Nat → Option Nat) (c e : Nat) (nL : Nat) (xs : Nat → Int32) (D : px_H) (v1 : Int32) : px_run (px_mk (kX12_byteAt X)) 0 ([some (.ref 67), some (.int (v1))], [], (hp M J R c e nL xs D)) =
    cond (decide (M 67 55 ≤ v1))
    (px_run (px_mk (kX12_byteAt X)) 17 ([some (.ref 67), some (.int (v1))], [], (hp M J R c e nL xs D)))
    (cond (px_inb (v1) 160)
    (px_run (px_mk (kX12_byteAt X)) 18 ([some (.ref 67), some (.int (v1))], [.int (((M 95) (Int32.toNatClampNeg (v1))))], (hp M J R c e nL xs D))) none) := (px_run_eq _ _ _).trans rfl
set_option maxRecDepth 40000 in
theorem eX12_byteAt_17 (X : px_X) (M : Nat → Nat → Int32) (J : Nat → Nat → Int64) (R : Nat → Nat → Option Nat) (c e : Nat) (nL : Nat) (xs : Nat → Int32) (D : px_H) (o0 : Option Value) (o1 : Option Value) : px_run (px_mk (kX12_byteAt X)) 17 ([o0, o1], [], (hp M J R c e nL xs D)) =
    px_run (px_mk (kX12_byteAt X)) 18 ([none, none], [.int ((-1))], (hp M J R c e nL xs D)) := (px_run_eq _ _ _).trans rfl
set_option maxRecDepth 40000 in
theorem eX12_byteAt_18 (X : px_X) (M : Nat → Nat → Int32) (J : Nat → Nat → Int64) (R : Nat → Nat → Option Nat) (c e : Nat) (nL : Nat) (xs : Nat → Int32) (D : px_H) (o0 : Option Value) (o1 : Option Value) (w0 : Int32) : px_run (px_mk (kX12_byteAt X)) 18 ([o0, o1], [.int (w0)], (hp M J R c e nL xs D)) =
    some (some (.int (w0)), (hp M J R c e nL xs D)) := (px_run_eq _ _ _).trans rfl
set_option maxRecDepth 40000 in
theorem eX12_isLetter_0 (X : px_X) (M : Nat → Nat → Int32) (J : Nat → Nat → Int64) (R : Nat → Nat → Option Nat) (c e : Nat) (nL : Nat) (xs : Nat → Int32) (D : px_H) (v0 : Int32) : px_run (px_mk (kX12_isLetter X)) 0 ([some (.int (v0))], [], (hp M J R c e nL xs D)) =
    cond (decide (v0 < 97))
    (px_run (px_mk (kX12_isLetter X)) 16 ([some (.int (v0))], [], (hp M J R c e nL xs D)))
    (cond (decide (122 < v0))
    (px_run (px_mk (kX12_isLetter X)) 16 ([some (.int (v0))], [], (hp M J R c e nL xs D)))
    (px_run (px_mk (kX12_isLetter X)) 17 ([some (.int (v0))], [.int (1)], (hp M J R c e nL xs D)))) := (px_run_eq _ _ _).trans rfl
set_option maxRecDepth 40000 in
theorem eX12_isLetter_16 (X : px_X) (M : Nat → Nat → Int32) (J : Nat → Nat → Int64) (R : Nat → Nat → Option Nat) (c e : Nat) (nL : Nat) (xs : Nat → Int32) (D : px_H) (o0 : Option Value) : px_run (px_mk (kX12_isLetter X)) 16 ([o0], [], (hp M J R c e nL xs D)) =
    px_run (px_mk (kX12_isLetter X)) 17 ([none], [.int (0)], (hp M J R c e nL xs D)) := (px_run_eq _ _ _).trans rfl
set_option maxRecDepth 40000 in
theorem eX12_isLetter_17 (X : px_X) (M : Nat → Nat → Int32) (J : Nat → Nat → Int64) (R : Nat → Nat → Option Nat) (c e : Nat) (nL : Nat) (xs : Nat → Int32) (D : px_H) (o0 : Option Value) (w0 : Int32) : px_run (px_mk (kX12_isLetter X)) 17 ([o0], [.int (w0)], (hp M J R c e nL xs D)) =
    cond (decide (w0 = 0) || decide (w0 = 1)) (some (some (.int (w0)), (hp M J R c e nL xs D))) none := (px_run_eq _ _ _).trans rfl
set_option maxRecDepth 40000 in
theorem eX12_isDigit_0 (X : px_X) (M : Nat → Nat → Int32) (J : Nat → Nat → Int64) (R : Nat → Nat → Option Nat) (c e : Nat) (nL : Nat) (xs : Nat → Int32) (D : px_H) (v0 : Int32) : px_run (px_mk (kX12_isDigit X)) 0 ([some (.int (v0))], [], (hp M J R c e nL xs D)) =
    cond (decide (v0 < 48))
    (px_run (px_mk (kX12_isDigit X)) 16 ([some (.int (v0))], [], (hp M J R c e nL xs D)))
    (cond (decide (57 < v0))
    (px_run (px_mk (kX12_isDigit X)) 16 ([some (.int (v0))], [], (hp M J R c e nL xs D)))
    (px_run (px_mk (kX12_isDigit X)) 17 ([some (.int (v0))], [.int (1)], (hp M J R c e nL xs D)))) := (px_run_eq _ _ _).trans rfl
set_option maxRecDepth 40000 in
theorem eX12_isDigit_16 (X : px_X) (M : Nat → Nat → Int32) (J : Nat → Nat → Int64) (R : Nat → Nat → Option Nat) (c e : Nat) (nL : Nat) (xs : Nat → Int32) (D : px_H) (o0 : Option Value) : px_run (px_mk (kX12_isDigit X)) 16 ([o0], [], (hp M J R c e nL xs D)) =
    px_run (px_mk (kX12_isDigit X)) 17 ([none], [.int (0)], (hp M J R c e nL xs D)) := (px_run_eq _ _ _).trans rfl
set_option maxRecDepth 40000 in
theorem eX12_isDigit_17 (X : px_X) (M : Nat → Nat → Int32) (J : Nat → Nat → Int64) (R : Nat → Nat → Option Nat) (c e : Nat) (nL : Nat) (xs : Nat → Int32) (D : px_H) (o0 : Option Value) (w0 : Int32) : px_run (px_mk (kX12_isDigit X)) 17 ([o0], [.int (w0)], (hp M J R c e nL xs D)) =
    cond (decide (w0 = 0) || decide (w0 = 1)) (some (some (.int (w0)), (hp M J R c e nL xs D))) none := (px_run_eq _ _ _).trans rfl
set_option maxRecDepth 40000 in
theorem eX12_next_0 (X : px_X) (M : Nat → Nat → Int32) (J : Nat → Nat → Int64) (R : Nat → Nat → Option Nat) (c e : Nat) (nL : Nat) (xs : Nat → Int32) (D : px_H)  : px_run (px_mk (kX12_next X)) 0 ([some (.ref 67), none, none], [], (hp M J R c e nL xs D)) =
    px_bd (X 208 [.ref 67, .int (M 67 57)] (hp M J R c e nL xs D))
    (fun v G1 => px_p (kX12_next X) 0 4 ([some (.ref 67), none, none], px_psh v [], G1)) := (px_run_eq _ _ _).trans rfl
set_option maxRecDepth 40000 in
theorem eX12_next_0_4 (X : px_X) (M : Nat → Nat → Int32) (J : Nat → Nat → Int64) (R : Nat → Nat → Option Nat) (c e : Nat) (nL : Nat) (xs : Nat → Int32) (D : px_H) (w0 : Int32) : px_p (kX12_next X) 0 4 ([some (.ref 67), none, none], [.int (w0)], (hp M J R c e nL xs D)) =
    cond (decide (w0 = 32))
    (px_run (px_mk (kX12_next X)) 26 ([some (.ref 67), none, none], [], (hp M J R c e nL xs D)))
    (px_bd (X 208 [.ref 67, .int (M 67 57)] (hp M J R c e nL xs D))
    (fun v G1 => px_p (kX12_next X) 0 10 ([some (.ref 67), none, none], px_psh v [], G1))) := rfl
set_option maxRecDepth 40000 in
theorem eX12_next_26 (X : px_X) (M : Nat → Nat → Int32) (J : Nat → Nat → Int64) (R : Nat → Nat → Option Nat) (c e : Nat) (nL : Nat) (xs : Nat → Int32) (D : px_H) (o1 : Option Value) (o2 : Option Value) : px_run (px_mk (kX12_next X)) 26 ([some (.ref 67), o1, o2], [], (hp M J R c e nL xs D)) =
    px_run (px_mk (kX12_next X)) 0 ([some (.ref 67), none, none], [], (hp (px_uR M 67 (upd (M 67) 57 ((M 67 57 + 1)))) J R c e nL xs D)) := (px_run_eq _ _ _).trans rfl
set_option maxRecDepth 40000 in
theorem eX12_next_0_10 (X : px_X) (M : Nat → Nat → Int32) (J : Nat → Nat → Int64) (R : Nat → Nat → Option Nat) (c e : Nat) (nL : Nat) (xs : Nat → Int32) (D : px_H) (w0 : Int32) : px_p (kX12_next X) 0 10 ([some (.ref 67), none, none], [.int (w0)], (hp M J R c e nL xs D)) =
    cond (decide (¬ w0 = 10))
    (px_run (px_mk (kX12_next X)) 39 ([some (.ref 67), none, none], [], (hp M J R c e nL xs D)))
    (px_run (px_mk (kX12_next X)) 26 ([some (.ref 67), none, none], [], (hp M J R c e nL xs D))) := rfl
set_option maxRecDepth 40000 in
theorem eX12_next_39 (X : px_X) (M : Nat → Nat → Int32) (J : Nat → Nat → Int64) (R : Nat → Nat → Option Nat) (c e : Nat) (nL : Nat) (xs : Nat → Int32) (D : px_H) (o1 : Option Value) (o2 : Option Value) : px_run (px_mk (kX12_next X)) 39 ([some (.ref 67), o1, o2], [], (hp M J R c e nL xs D)) =
    px_bd (X 208 [.ref 67, .int (M 67 57)] (hp (px_uR M 67 (upd (M 67) 58 (M 67 57))) J R c e nL xs D))
    (fun v G1 => px_p (kX12_next X) 39 8 ([some (.ref 67), none, none], px_psh v [], G1)) := (px_run_eq _ _ _).trans rfl
set_option maxRecDepth 40000 in
theorem eX12_next_39_8 (X : px_X) (M : Nat → Nat → Int32) (J : Nat → Nat → Int64) (R : Nat → Nat → Option Nat) (c e : Nat) (nL : Nat) (xs : Nat → Int32) (D : px_H) (w0 : Int32) : px_p (kX12_next X) 39 8 ([some (.ref 67), none, none], [.int (w0)], (hp M J R c e nL xs D)) =
    cond (decide (¬ w0 = (-1)))
    (px_run (px_mk (kX12_next X)) 69 ([some (.ref 67), some (.int (w0)), none], [], (hp M J R c e nL xs D)))
    (px_run (px_mk (kX12_next X)) 174 ([some (.ref 67), some (.int (w0)), none], [], (hp (px_uR M 67 (upd (M 67) 59 (0))) J R c e nL xs D))) := rfl
set_option maxRecDepth 40000 in
theorem eX12_next_69 (X : px_X) (M : Nat → Nat → Int32) (J : Nat → Nat → Int64) (R : Nat → Nat → Option Nat) (c e : Nat) (nL : Nat) (xs : Nat → Int32) (D : px_H) (v1 : Int32) (o2 : Option Value) : px_run (px_mk (kX12_next X)) 69 ([some (.ref 67), some (.int (v1)), o2], [], (hp M J R c e nL xs D)) =
    px_bd (X 209 [.int (v1)] (hp M J R c e nL xs D))
    (fun v G1 => px_p (kX12_next X) 69 2 ([some (.ref 67), some (.int (v1)), none], px_psh v [], G1)) := (px_run_eq _ _ _).trans rfl
set_option maxRecDepth 40000 in
theorem eX12_next_174 (X : px_X) (M : Nat → Nat → Int32) (J : Nat → Nat → Int64) (R : Nat → Nat → Option Nat) (c e : Nat) (nL : Nat) (xs : Nat → Int32) (D : px_H) (o0 : Option Value) (o1 : Option Value) (o2 : Option Value) : px_run (px_mk (kX12_next X)) 174 ([o0, o1, o2], [], (hp M J R c e nL xs D)) =
    some (none, (hp M J R c e nL xs D)) := (px_run_eq _ _ _).trans rfl
set_option maxRecDepth 40000 in
theorem eX12_next_69_2 (X : px_X) (M : Nat → Nat → Int32) (J : Nat → Nat → Int64) (R : Nat → Nat → Option Nat) (c e : Nat) (nL : Nat) (xs : Nat → Int32) (D : px_H) (v1 : Int32) (w0 : Int32) : px_p (kX12_next X) 69 2 ([some (.ref 67), some (.int (v1)), none], [.int (w0)], (hp M J R c e nL xs D)) =
    cond (decide (w0 = 0))
    (px_run (px_mk (kX12_next X)) 83 ([some (.ref 67), some (.int (v1)), none], [], (hp M J R c e nL xs D)))
    (px_bd (X 213 [.ref 67] (hp M J R c e nL xs D))
    (fun v G1 => px_p (kX12_next X) 69 5 ([some (.ref 67), some (.int (v1)), none], px_psh v [], G1))) := rfl
set_option maxRecDepth 40000 in
theorem eX12_next_83 (X : px_X) (M : Nat → Nat → Int32) (J : Nat → Nat → Int64) (R : Nat → Nat → Option Nat) (c e : Nat) (nL : Nat) (xs : Nat → Int32) (D : px_H) (v1 : Int32) (o2 : Option Value) : px_run (px_mk (kX12_next X)) 83 ([some (.ref 67), some (.int (v1)), o2], [], (hp M J R c e nL xs D)) =
    px_bd (X 210 [.int (v1)] (hp M J R c e nL xs D))
    (fun v G1 => px_p (kX12_next X) 83 2 ([some (.ref 67), some (.int (v1)), none], px_psh v [], G1)) := (px_run_eq _ _ _).trans rfl
set_option maxRecDepth 40000 in
theorem eX12_next_69_5 (X : px_X) (M : Nat → Nat → Int32) (J : Nat → Nat → Int64) (R : Nat → Nat → Option Nat) (c e : Nat) (nL : Nat) (xs : Nat → Int32) (D : px_H) (v1 : Int32) : px_p (kX12_next X) 69 5 ([some (.ref 67), some (.int (v1)), none], [], (hp M J R c e nL xs D)) =
    px_run (px_mk (kX12_next X)) 174 ([some (.ref 67), some (.int (v1)), none], [], (hp M J R c e nL xs D)) := rfl
set_option maxRecDepth 40000 in
theorem eX12_next_83_2 (X : px_X) (M : Nat → Nat → Int32) (J : Nat → Nat → Int64) (R : Nat → Nat → Option Nat) (c e : Nat) (nL : Nat) (xs : Nat → Int32) (D : px_H) (v1 : Int32) (w0 : Int32) : px_p (kX12_next X) 83 2 ([some (.ref 67), some (.int (v1)), none], [.int (w0)], (hp M J R c e nL xs D)) =
    cond (decide (w0 = 0))
    (px_run (px_mk (kX12_next X)) 97 ([some (.ref 67), some (.int (v1)), none], [], (hp M J R c e nL xs D)))
    (px_bd (X 212 [.ref 67] (hp M J R c e nL xs D))
    (fun v G1 => px_p (kX12_next X) 83 5 ([some (.ref 67), some (.int (v1)), none], px_psh v [], G1))) := rfl
set_option maxRecDepth 40000 in
theorem eX12_next_97 (X : px_X) (M : Nat → Nat → Int32) (J : Nat → Nat → Int64) (R : Nat → Nat → Option Nat) (c e : Nat) (nL : Nat) (xs : Nat → Int32) (D : px_H) (v1 : Int32) (o2 : Option Value) : px_run (px_mk (kX12_next X)) 97 ([some (.ref 67), some (.int (v1)), o2], [], (hp M J R c e nL xs D)) =
    cond (decide (v1 = 40))
    (px_run (px_mk (kX12_next X)) 145 ([some (.ref 67), some (.int (v1)), none], [], (hp M J R c e nL xs D)))
    (cond (decide (v1 = 41))
    (px_run (px_mk (kX12_next X)) 145 ([some (.ref 67), some (.int (v1)), none], [], (hp M J R c e nL xs D)))
    (cond (decide (v1 = 59))
    (px_run (px_mk (kX12_next X)) 145 ([some (.ref 67), some (.int (v1)), none], [], (hp M J R c e nL xs D)))
    (cond (decide (v1 = 43))
    (px_run (px_mk (kX12_next X)) 145 ([some (.ref 67), some (.int (v1)), none], [], (hp M J R c e nL xs D)))
    (cond (decide (v1 = 45))
    (px_run (px_mk (kX12_next X)) 145 ([some (.ref 67), some (.int (v1)), none], [], (hp M J R c e nL xs D)))
    (cond (decide (v1 = 42))
    (px_run (px_mk (kX12_next X)) 145 ([some (.ref 67), some (.int (v1)), none], [], (hp M J R c e nL xs D)))
    (cond (decide (v1 = 60))
    (px_run (px_mk (kX12_next X)) 145 ([some (.ref 67), some (.int (v1)), none], [], (hp M J R c e nL xs D)))
    (cond (decide (¬ v1 = 61))
    (px_run (px_mk (kX12_next X)) 149 ([some (.ref 67), some (.int (v1)), none], [], (hp M J R c e nL xs D)))
    (px_run (px_mk (kX12_next X)) 145 ([some (.ref 67), some (.int (v1)), none], [], (hp M J R c e nL xs D)))))))))) := (px_run_eq _ _ _).trans rfl
set_option maxRecDepth 40000 in
theorem eX12_next_83_5 (X : px_X) (M : Nat → Nat → Int32) (J : Nat → Nat → Int64) (R : Nat → Nat → Option Nat) (c e : Nat) (nL : Nat) (xs : Nat → Int32) (D : px_H) (v1 : Int32) : px_p (kX12_next X) 83 5 ([some (.ref 67), some (.int (v1)), none], [], (hp M J R c e nL xs D)) =
    px_run (px_mk (kX12_next X)) 174 ([some (.ref 67), some (.int (v1)), none], [], (hp M J R c e nL xs D)) := rfl
set_option maxRecDepth 40000 in
theorem eX12_next_145 (X : px_X) (M : Nat → Nat → Int32) (J : Nat → Nat → Int64) (R : Nat → Nat → Option Nat) (c e : Nat) (nL : Nat) (xs : Nat → Int32) (D : px_H) (v1 : Int32) (o2 : Option Value) : px_run (px_mk (kX12_next X)) 145 ([some (.ref 67), some (.int (v1)), o2], [], (hp M J R c e nL xs D)) =
    px_run (px_mk (kX12_next X)) 150 ([some (.ref 67), some (.int (v1)), none], [.int (1)], (hp M J R c e nL xs D)) := (px_run_eq _ _ _).trans rfl
set_option maxRecDepth 40000 in
theorem eX12_next_149 (X : px_X) (M : Nat → Nat → Int32) (J : Nat → Nat → Int64) (R : Nat → Nat → Option Nat) (c e : Nat) (nL : Nat) (xs : Nat → Int32) (D : px_H) (v1 : Int32) (o2 : Option Value) : px_run (px_mk (kX12_next X)) 149 ([some (.ref 67), some (.int (v1)), o2], [], (hp M J R c e nL xs D)) =
    px_run (px_mk (kX12_next X)) 150 ([some (.ref 67), some (.int (v1)), none], [.int (0)], (hp M J R c e nL xs D)) := (px_run_eq _ _ _).trans rfl
set_option maxRecDepth 40000 in
theorem eX12_next_150 (X : px_X) (M : Nat → Nat → Int32) (J : Nat → Nat → Int64) (R : Nat → Nat → Option Nat) (c e : Nat) (nL : Nat) (xs : Nat → Int32) (D : px_H) (v1 : Int32) (o2 : Option Value) (w0 : Int32) : px_run (px_mk (kX12_next X)) 150 ([some (.ref 67), some (.int (v1)), o2], [.int (w0)], (hp M J R c e nL xs D)) =
    cond (decide (w0 = 0))
    (px_run (px_mk (kX12_next X)) 160 ([some (.ref 67), some (.int (v1)), some (.int (w0))], [.ref 67], (hp M J R c e nL xs D)))
    (px_run (px_mk (kX12_next X)) 161 ([some (.ref 67), some (.int (v1)), some (.int (w0))], [.int (v1), .ref 67], (hp M J R c e nL xs D))) := (px_run_eq _ _ _).trans rfl
set_option maxRecDepth 40000 in
theorem eX12_next_160 (X : px_X) (M : Nat → Nat → Int32) (J : Nat → Nat → Int64) (R : Nat → Nat → Option Nat) (c e : Nat) (nL : Nat) (xs : Nat → Int32) (D : px_H) (o1 : Option Value) (o2 : Option Value) : px_run (px_mk (kX12_next X)) 160 ([some (.ref 67), o1, o2], [.ref 67], (hp M J R c e nL xs D)) =
    px_run (px_mk (kX12_next X)) 161 ([some (.ref 67), none, none], [.int (2), .ref 67], (hp M J R c e nL xs D)) := (px_run_eq _ _ _).trans rfl
set_option maxRecDepth 40000 in
theorem eX12_next_161 (X : px_X) (M : Nat → Nat → Int32) (J : Nat → Nat → Int64) (R : Nat → Nat → Option Nat) (c e : Nat) (nL : Nat) (xs : Nat → Int32) (D : px_H) (o1 : Option Value) (o2 : Option Value) (w1 : Int32) : px_run (px_mk (kX12_next X)) 161 ([some (.ref 67), o1, o2], [.int (w1), .ref 67], (hp M J R c e nL xs D)) =
    px_run (px_mk (kX12_next X)) 174 ([some (.ref 67), none, none], [], (hp (px_uR M 67 (upd (upd (M 67) 59 (w1)) 57 ((M 67 57 + 1)))) J R c e nL xs D)) := (px_run_eq _ _ _).trans rfl
set_option maxRecDepth 40000 in
theorem eX12_number_0 (X : px_X) (M : Nat → Nat → Int32) (J : Nat → Nat → Int64) (R : Nat → Nat → Option Nat) (c e : Nat) (nL : Nat) (xs : Nat → Int32) (D : px_H)  : px_run (px_mk (kX12_number X)) 0 ([some (.ref 67)], [], (hp M J R c e nL xs D)) =
    px_run (px_mk (kX12_number X)) 5 ([some (.ref 67)], [], (hp (px_uR M 67 (upd (M 67) 60 (0))) J R c e nL xs D)) := (px_run_eq _ _ _).trans rfl
set_option maxRecDepth 40000 in
theorem eX12_number_5 (X : px_X) (M : Nat → Nat → Int32) (J : Nat → Nat → Int64) (R : Nat → Nat → Option Nat) (c e : Nat) (nL : Nat) (xs : Nat → Int32) (D : px_H)  : px_run (px_mk (kX12_number X)) 5 ([some (.ref 67)], [], (hp M J R c e nL xs D)) =
    px_bd (X 208 [.ref 67, .int (M 67 57)] (hp M J R c e nL xs D))
    (fun v G1 => px_p (kX12_number X) 5 4 ([some (.ref 67)], px_psh v [], G1)) := (px_run_eq _ _ _).trans rfl
set_option maxRecDepth 40000 in
theorem eX12_number_5_4 (X : px_X) (M : Nat → Nat → Int32) (J : Nat → Nat → Int64) (R : Nat → Nat → Option Nat) (c e : Nat) (nL : Nat) (xs : Nat → Int32) (D : px_H) (w0 : Int32) : px_p (kX12_number X) 5 4 ([some (.ref 67)], [.int (w0)], (hp M J R c e nL xs D)) =
    px_bd (X 210 [.int (w0)] (hp M J R c e nL xs D))
    (fun v G1 => px_p (kX12_number X) 5 5 ([some (.ref 67)], px_psh v [], G1)) := rfl
set_option maxRecDepth 40000 in
theorem eX12_number_5_5 (X : px_X) (M : Nat → Nat → Int32) (J : Nat → Nat → Int64) (R : Nat → Nat → Option Nat) (c e : Nat) (nL : Nat) (xs : Nat → Int32) (D : px_H) (w0 : Int32) : px_p (kX12_number X) 5 5 ([some (.ref 67)], [.int (w0)], (hp M J R c e nL xs D)) =
    cond (decide (w0 = 0))
    (px_run (px_mk (kX12_number X)) 75 ([some (.ref 67)], [], (hp M J R c e nL xs D)))
    (cond (decide (4 ≤ (M 67 57 - M 67 58)))
    (px_run (px_mk (kX12_number X)) 55 ([some (.ref 67)], [.ref 67], (hp M J R c e nL xs D)))
    (px_bd (X 208 [.ref 67, .int (M 67 57)] (hp M J R c e nL xs D))
    (fun v G1 => px_p (kX12_number X) 5 22 ([some (.ref 67)], px_psh v [.int ((10 * M 67 60)), .ref 67], G1)))) := rfl
set_option maxRecDepth 40000 in
theorem eX12_number_75 (X : px_X) (M : Nat → Nat → Int32) (J : Nat → Nat → Int64) (R : Nat → Nat → Option Nat) (c e : Nat) (nL : Nat) (xs : Nat → Int32) (D : px_H)  : px_run (px_mk (kX12_number X)) 75 ([some (.ref 67)], [], (hp M J R c e nL xs D)) =
    cond (decide ((M 67 57 - M 67 58) ≤ 4))
    (px_run (px_mk (kX12_number X)) 93 ([some (.ref 67)], [.ref 67], (hp M J R c e nL xs D)))
    (px_run (px_mk (kX12_number X)) 94 ([some (.ref 67)], [.int (2), .ref 67], (hp M J R c e nL xs D))) := (px_run_eq _ _ _).trans rfl
set_option maxRecDepth 40000 in
theorem eX12_number_55 (X : px_X) (M : Nat → Nat → Int32) (J : Nat → Nat → Int64) (R : Nat → Nat → Option Nat) (c e : Nat) (nL : Nat) (xs : Nat → Int32) (D : px_H)  : px_run (px_mk (kX12_number X)) 55 ([some (.ref 67)], [.ref 67], (hp M J R c e nL xs D)) =
    px_run (px_mk (kX12_number X)) 59 ([some (.ref 67)], [.int (M 67 60), .ref 67], (hp M J R c e nL xs D)) := (px_run_eq _ _ _).trans rfl
set_option maxRecDepth 40000 in
theorem eX12_number_5_22 (X : px_X) (M : Nat → Nat → Int32) (J : Nat → Nat → Int64) (R : Nat → Nat → Option Nat) (c e : Nat) (nL : Nat) (xs : Nat → Int32) (D : px_H) (w1 : Int32) (w2 : Int32) : px_p (kX12_number X) 5 22 ([some (.ref 67)], [.int (w2), .int (w1), .ref 67], (hp M J R c e nL xs D)) =
    px_run (px_mk (kX12_number X)) 59 ([some (.ref 67)], [.int (((w1 + w2) - 48)), .ref 67], (hp M J R c e nL xs D)) := rfl
set_option maxRecDepth 40000 in
theorem eX12_number_93 (X : px_X) (M : Nat → Nat → Int32) (J : Nat → Nat → Int64) (R : Nat → Nat → Option Nat) (c e : Nat) (nL : Nat) (xs : Nat → Int32) (D : px_H) (o0 : Option Value) : px_run (px_mk (kX12_number X)) 93 ([o0], [.ref 67], (hp M J R c e nL xs D)) =
    px_run (px_mk (kX12_number X)) 94 ([none], [.int (1), .ref 67], (hp M J R c e nL xs D)) := (px_run_eq _ _ _).trans rfl
set_option maxRecDepth 40000 in
theorem eX12_number_94 (X : px_X) (M : Nat → Nat → Int32) (J : Nat → Nat → Int64) (R : Nat → Nat → Option Nat) (c e : Nat) (nL : Nat) (xs : Nat → Int32) (D : px_H) (o0 : Option Value) (w1 : Int32) : px_run (px_mk (kX12_number X)) 94 ([o0], [.int (w1), .ref 67], (hp M J R c e nL xs D)) =
    some (none, (hp (px_uR M 67 (upd (M 67) 59 (w1))) J R c e nL xs D)) := (px_run_eq _ _ _).trans rfl
set_option maxRecDepth 40000 in
theorem eX12_number_59 (X : px_X) (M : Nat → Nat → Int32) (J : Nat → Nat → Int64) (R : Nat → Nat → Option Nat) (c e : Nat) (nL : Nat) (xs : Nat → Int32) (D : px_H) (w1 : Int32) : px_run (px_mk (kX12_number X)) 59 ([some (.ref 67)], [.int (w1), .ref 67], (hp M J R c e nL xs D)) =
    px_run (px_mk (kX12_number X)) 5 ([some (.ref 67)], [], (hp (px_uR M 67 (upd (upd (M 67) 60 (w1)) 57 ((M 67 57 + 1)))) J R c e nL xs D)) := (px_run_eq _ _ _).trans rfl
