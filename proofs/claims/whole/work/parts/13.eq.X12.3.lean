/-! block equations over the fixed layout (written by wip/whole/seg.py) -/
set_option maxRecDepth 40000 in
theorem eX12_worth_0 (X : px_X) (M : Nat → Nat → Int32) (J : Nat → Nat → Int64) (R : Nat → Nat → Option Nat) (c e : Nat) (nL : Nat) (xs : Nat → Int32) (D : px_H) (v1 : Int32) (v2 : Int32) (v3 : Int32) : px_run (px_mk (kX12_worth X)) 0 ([some (.ref 67), some (.int (v1)), some (.int (v2)), some (.int (v3))], [], (hp M J R c e nL xs D)) =
    px_bd (X 167 [.ref 67, .int (v1)] (hp M J R c e nL xs D))
    (fun v G1 => px_p (kX12_worth X) 0 3 ([some (.ref 67), some (.int (v1)), some (.int (v2)), some (.int (v3))], px_psh v [], G1)) := (px_run_eq _ _ _).trans rfl
set_option maxRecDepth 40000 in
theorem eX12_worth_0_3 (X : px_X) (M : Nat → Nat → Int32) (J : Nat → Nat → Int64) (R : Nat → Nat → Option Nat) (c e : Nat) (nL : Nat) (xs : Nat → Int32) (D : px_H) (v1 : Int32) (v2 : Int32) (v3 : Int32) (w0 : Int32) : px_p (kX12_worth X) 0 3 ([some (.ref 67), some (.int (v1)), some (.int (v2)), some (.int (v3))], [.int (w0)], (hp M J R c e nL xs D)) =
    cond (decide (w0 = 0))
    (px_run (px_mk (kX12_worth X)) 40 ([some (.ref 67), some (.int (v1)), some (.int (v2)), some (.int (v3))], [], (hp M J R c e nL xs D)))
    (px_bd (X 168 [.int (v2)] (hp M J R c e nL xs D))
    (fun v G1 => px_p (kX12_worth X) 0 6 ([some (.ref 67), some (.int (v1)), some (.int (v2)), some (.int (v3))], px_psh v [], G1))) := rfl
set_option maxRecDepth 40000 in
theorem eX12_worth_40 (X : px_X) (M : Nat → Nat → Int32) (J : Nat → Nat → Int64) (R : Nat → Nat → Option Nat) (c e : Nat) (nL : Nat) (xs : Nat → Int32) (D : px_H) (o0 : Option Value) (o1 : Option Value) (o2 : Option Value) (o3 : Option Value) : px_run (px_mk (kX12_worth X)) 40 ([o0, o1, o2, o3], [], (hp M J R c e nL xs D)) =
    px_run (px_mk (kX12_worth X)) 43 ([none, none, none, none], [.long ((-4611686018427387904))], (hp M J R c e nL xs D)) := (px_run_eq _ _ _).trans rfl
set_option maxRecDepth 40000 in
theorem eX12_worth_0_6 (X : px_X) (M : Nat → Nat → Int32) (J : Nat → Nat → Int64) (R : Nat → Nat → Option Nat) (c e : Nat) (nL : Nat) (xs : Nat → Int32) (D : px_H) (v1 : Int32) (v2 : Int32) (v3 : Int32) (w0 : Int32) : px_p (kX12_worth X) 0 6 ([some (.ref 67), some (.int (v1)), some (.int (v2)), some (.int (v3))], [.int (w0)], (hp M J R c e nL xs D)) =
    cond (decide (w0 = 0))
    (px_run (px_mk (kX12_worth X)) 40 ([some (.ref 67), some (.int (v1)), some (.int (v2)), some (.int (v3))], [], (hp M J R c e nL xs D)))
    (px_bd (X 165 [.int (v3), .int (0), .int ((M 67 38 - 1))] (hp M J R c e nL xs D))
    (fun v G1 => px_p (kX12_worth X) 0 14 ([some (.ref 67), some (.int (v1)), some (.int (v2)), some (.int (v3))], px_psh v [], G1))) := rfl
set_option maxRecDepth 40000 in
theorem eX12_worth_43 (X : px_X) (M : Nat → Nat → Int32) (J : Nat → Nat → Int64) (R : Nat → Nat → Option Nat) (c e : Nat) (nL : Nat) (xs : Nat → Int32) (D : px_H) (o0 : Option Value) (o1 : Option Value) (o2 : Option Value) (o3 : Option Value) (w0 : Int64) : px_run (px_mk (kX12_worth X)) 43 ([o0, o1, o2, o3], [.long (w0)], (hp M J R c e nL xs D)) =
    some (some (.long (w0)), (hp M J R c e nL xs D)) := (px_run_eq _ _ _).trans rfl
set_option maxRecDepth 40000 in
theorem eX12_worth_0_14 (X : px_X) (M : Nat → Nat → Int32) (J : Nat → Nat → Int64) (R : Nat → Nat → Option Nat) (c e : Nat) (nL : Nat) (xs : Nat → Int32) (D : px_H) (v1 : Int32) (v2 : Int32) (v3 : Int32) (w0 : Int32) : px_p (kX12_worth X) 0 14 ([some (.ref 67), some (.int (v1)), some (.int (v2)), some (.int (v3))], [.int (w0)], (hp M J R c e nL xs D)) =
    cond (decide (w0 = 0))
    (px_run (px_mk (kX12_worth X)) 40 ([some (.ref 67), some (.int (v1)), some (.int (v2)), some (.int (v3))], [], (hp M J R c e nL xs D)))
    (px_bd (X 230 [.ref 67, .int (v3), .int (v1), .int (v2)] (hp M J R c e nL xs D))
    (fun v G1 => px_p (kX12_worth X) 0 20 ([some (.ref 67), some (.int (v1)), some (.int (v2)), some (.int (v3))], px_psh v [], G1))) := rfl
set_option maxRecDepth 40000 in
theorem eX12_worth_0_20 (X : px_X) (M : Nat → Nat → Int32) (J : Nat → Nat → Int64) (R : Nat → Nat → Option Nat) (c e : Nat) (nL : Nat) (xs : Nat → Int32) (D : px_H) (v1 : Int32) (v2 : Int32) (v3 : Int32) (w0 : Int32) : px_p (kX12_worth X) 0 20 ([some (.ref 67), some (.int (v1)), some (.int (v2)), some (.int (v3))], [.int (w0)], (hp M J R c e nL xs D)) =
    px_run (px_mk (kX12_worth X)) 43 ([some (.ref 67), some (.int (v1)), some (.int (v2)), some (.int (v3))], [.long ((Int32.toInt64 w0))], (hp M J R c e nL xs D)) := rfl
set_option maxRecDepth 40000 in
theorem eX12_shared_0 (X : px_X) (M : Nat → Nat → Int32) (J : Nat → Nat → Int64) (R : Nat → Nat → Option Nat) (c e : Nat) (nL : Nat) (xs : Nat → Int32) (D : px_H) (v1 : Int32) (v2 : Int32) (v3 : Int32) : px_run (px_mk (kX12_shared X)) 0 ([some (.ref 67), some (.int (v1)), some (.int (v2)), some (.int (v3)), none, none, none], [], (hp M J R c e nL xs D)) =
    px_run (px_mk (kX12_shared X)) 9 ([some (.ref 67), some (.int (v1)), some (.int (v2)), some (.int (v3)), some (.int (0)), some (.int ((8 * v1))), none], [], (hp M J R c e nL xs D)) := (px_run_eq _ _ _).trans rfl
set_option maxRecDepth 40000 in
theorem eX12_shared_9 (X : px_X) (M : Nat → Nat → Int32) (J : Nat → Nat → Int64) (R : Nat → Nat → Option Nat) (c e : Nat) (nL : Nat) (xs : Nat → Int32) (D : px_H) (v1 : Int32) (v2 : Int32) (v3 : Int32) (v4 : Int32) (v5 : Int32) (o6 : Option Value) : px_run (px_mk (kX12_shared X)) 9 ([some (.ref 67), some (.int (v1)), some (.int (v2)), some (.int (v3)), some (.int (v4)), some (.int (v5)), o6], [], (hp M J R c e nL xs D)) =
    cond (px_inb (v1) 20)
    (cond (decide (((8 * v1) + ((M 81) (Int32.toNatClampNeg (v1)))) ≤ v5))
    (px_run (px_mk (kX12_shared X)) 88 ([some (.ref 67), some (.int (v1)), some (.int (v2)), some (.int (v3)), some (.int (v4)), some (.int (v5)), none], [], (hp M J R c e nL xs D)))
    (px_run (px_mk (kX12_shared X)) 31 ([some (.ref 67), some (.int (v1)), some (.int (v2)), some (.int (v3)), some (.int (v4)), some (.int (v5)), some (.int ((8 * v2)))], [], (hp M J R c e nL xs D)))) none := (px_run_eq _ _ _).trans rfl
set_option maxRecDepth 40000 in
theorem eX12_shared_88 (X : px_X) (M : Nat → Nat → Int32) (J : Nat → Nat → Int64) (R : Nat → Nat → Option Nat) (c e : Nat) (nL : Nat) (xs : Nat → Int32) (D : px_H) (o0 : Option Value) (o1 : Option Value) (o2 : Option Value) (o3 : Option Value) (v4 : Int32) (o5 : Option Value) (o6 : Option Value) : px_run (px_mk (kX12_shared X)) 88 ([o0, o1, o2, o3, some (.int (v4)), o5, o6], [], (hp M J R c e nL xs D)) =
    some (some (.int (v4)), (hp M J R c e nL xs D)) := (px_run_eq _ _ _).trans rfl
set_option maxRecDepth 40000 in
theorem eX12_shared_31 (X : px_X) (M : Nat → Nat → Int32) (J : Nat → Nat → Int64) (R : Nat → Nat → Option Nat) (c e : Nat) (nL : Nat) (xs : Nat → Int32) (D : px_H) (v1 : Int32) (v2 : Int32) (v3 : Int32) (v4 : Int32) (v5 : Int32) (v6 : Int32) : px_run (px_mk (kX12_shared X)) 31 ([some (.ref 67), some (.int (v1)), some (.int (v2)), some (.int (v3)), some (.int (v4)), some (.int (v5)), some (.int (v6))], [], (hp M J R c e nL xs D)) =
    cond (px_inb (v2) 20)
    (cond (decide (((8 * v2) + ((M 81) (Int32.toNatClampNeg (v2)))) ≤ v6))
    (px_run (px_mk (kX12_shared X)) 82 ([some (.ref 67), some (.int (v1)), some (.int (v2)), some (.int (v3)), some (.int (v4)), some (.int (v5)), some (.int (v6))], [], (hp M J R c e nL xs D)))
    (cond (px_inb (v6) 160)
    (cond (px_inb (v5) 160)
    (cond (decide (¬ ((M 82) (Int32.toNatClampNeg (v6))) = (((M 82) (Int32.toNatClampNeg (v5))) + v3)))
    (px_run (px_mk (kX12_shared X)) 72 ([some (.ref 67), some (.int (v1)), some (.int (v2)), some (.int (v3)), some (.int (v4)), some (.int (v5)), some (.int (v6))], [.int (v4)], (hp M J R c e nL xs D)))
    (px_run (px_mk (kX12_shared X)) 73 ([some (.ref 67), some (.int (v1)), some (.int (v2)), some (.int (v3)), some (.int (v4)), some (.int (v5)), some (.int (v6))], [.int (1), .int (v4)], (hp M J R c e nL xs D)))) none) none)) none := (px_run_eq _ _ _).trans rfl
set_option maxRecDepth 40000 in
theorem eX12_shared_82 (X : px_X) (M : Nat → Nat → Int32) (J : Nat → Nat → Int64) (R : Nat → Nat → Option Nat) (c e : Nat) (nL : Nat) (xs : Nat → Int32) (D : px_H) (v1 : Int32) (v2 : Int32) (v3 : Int32) (v4 : Int32) (v5 : Int32) (o6 : Option Value) : px_run (px_mk (kX12_shared X)) 82 ([some (.ref 67), some (.int (v1)), some (.int (v2)), some (.int (v3)), some (.int (v4)), some (.int (v5)), o6], [], (hp M J R c e nL xs D)) =
    px_run (px_mk (kX12_shared X)) 9 ([some (.ref 67), some (.int (v1)), some (.int (v2)), some (.int (v3)), some (.int (v4)), some (.int ((v5 + 1))), none], [], (hp M J R c e nL xs D)) := (px_run_eq _ _ _).trans rfl
set_option maxRecDepth 40000 in
theorem eX12_shared_72 (X : px_X) (M : Nat → Nat → Int32) (J : Nat → Nat → Int64) (R : Nat → Nat → Option Nat) (c e : Nat) (nL : Nat) (xs : Nat → Int32) (D : px_H) (v1 : Int32) (v2 : Int32) (v3 : Int32) (o4 : Option Value) (v5 : Int32) (v6 : Int32) (w0 : Int32) : px_run (px_mk (kX12_shared X)) 72 ([some (.ref 67), some (.int (v1)), some (.int (v2)), some (.int (v3)), o4, some (.int (v5)), some (.int (v6))], [.int (w0)], (hp M J R c e nL xs D)) =
    px_run (px_mk (kX12_shared X)) 73 ([some (.ref 67), some (.int (v1)), some (.int (v2)), some (.int (v3)), none, some (.int (v5)), some (.int (v6))], [.int (0), .int (w0)], (hp M J R c e nL xs D)) := (px_run_eq _ _ _).trans rfl
set_option maxRecDepth 40000 in
theorem eX12_shared_73 (X : px_X) (M : Nat → Nat → Int32) (J : Nat → Nat → Int64) (R : Nat → Nat → Option Nat) (c e : Nat) (nL : Nat) (xs : Nat → Int32) (D : px_H) (v1 : Int32) (v2 : Int32) (v3 : Int32) (o4 : Option Value) (v5 : Int32) (v6 : Int32) (w0 : Int32) (w1 : Int32) : px_run (px_mk (kX12_shared X)) 73 ([some (.ref 67), some (.int (v1)), some (.int (v2)), some (.int (v3)), o4, some (.int (v5)), some (.int (v6))], [.int (w1), .int (w0)], (hp M J R c e nL xs D)) =
    px_run (px_mk (kX12_shared X)) 31 ([some (.ref 67), some (.int (v1)), some (.int (v2)), some (.int (v3)), some (.int ((w0 + w1))), some (.int (v5)), some (.int ((v6 + 1)))], [], (hp M J R c e nL xs D)) := (px_run_eq _ _ _).trans rfl
set_option maxRecDepth 40000 in
theorem eX12_bonded_0 (X : px_X) (M : Nat → Nat → Int32) (J : Nat → Nat → Int64) (R : Nat → Nat → Option Nat) (c e : Nat) (nL : Nat) (xs : Nat → Int32) (D : px_H) (v1 : Int32) (v2 : Int32) (v3 : Int32) : px_run (px_mk (kX12_bonded X)) 0 ([some (.ref 67), some (.int (v1)), some (.int (v2)), some (.int (v3)), none, none, none, none, none], [], (hp M J R c e nL xs D)) =
    px_bd (X 232 [.ref 67, .int (v1), .int (v2), .int (0)] (hp M J R c e nL xs D))
    (fun v G1 => px_p (kX12_bonded X) 0 7 ([some (.ref 67), some (.int (v1)), some (.int (v2)), some (.int (v3)), some (.int (0)), none, none, none, none], px_psh v [], G1)) := (px_run_eq _ _ _).trans rfl
set_option maxRecDepth 40000 in
theorem eX12_bonded_0_7 (X : px_X) (M : Nat → Nat → Int32) (J : Nat → Nat → Int64) (R : Nat → Nat → Option Nat) (c e : Nat) (nL : Nat) (xs : Nat → Int32) (D : px_H) (v1 : Int32) (v2 : Int32) (v3 : Int32) (v4 : Int32) (w0 : Int32) : px_p (kX12_bonded X) 0 7 ([some (.ref 67), some (.int (v1)), some (.int (v2)), some (.int (v3)), some (.int (v4)), none, none, none, none], [.int (w0)], (hp M J R c e nL xs D)) =
    px_run (px_mk (kX12_bonded X)) 15 ([some (.ref 67), some (.int (v1)), some (.int (v2)), some (.int (v3)), some (.int (v4)), some (.int (w0)), some (.int (1)), none, none], [], (hp M J R c e nL xs D)) := rfl
set_option maxRecDepth 40000 in
theorem eX12_bonded_15 (X : px_X) (M : Nat → Nat → Int32) (J : Nat → Nat → Int64) (R : Nat → Nat → Option Nat) (c e : Nat) (nL : Nat) (xs : Nat → Int32) (D : px_H) (v1 : Int32) (v2 : Int32) (v3 : Int32) (v4 : Int32) (v5 : Int32) (v6 : Int32) (o7 : Option Value) (o8 : Option Value) : px_run (px_mk (kX12_bonded X)) 15 ([some (.ref 67), some (.int (v1)), some (.int (v2)), some (.int (v3)), some (.int (v4)), some (.int (v5)), some (.int (v6)), o7, o8], [], (hp M J R c e nL xs D)) =
    cond (decide (50 < v6))
    (px_run (px_mk (kX12_bonded X)) 91 ([some (.ref 67), some (.int (v1)), some (.int (v2)), some (.int (v3)), some (.int (v4)), some (.int (v5)), some (.int (v6)), none, none], [], (hp M J R c e nL xs D)))
    (px_run (px_mk (kX12_bonded X)) 25 ([some (.ref 67), some (.int (v1)), some (.int (v2)), some (.int (v3)), some (.int (v4)), some (.int (v5)), some (.int (v6)), some (.int ((-1))), none], [], (hp M J R c e nL xs D))) := (px_run_eq _ _ _).trans rfl
set_option maxRecDepth 40000 in
theorem eX12_bonded_91 (X : px_X) (M : Nat → Nat → Int32) (J : Nat → Nat → Int64) (R : Nat → Nat → Option Nat) (c e : Nat) (nL : Nat) (xs : Nat → Int32) (D : px_H) (o0 : Option Value) (o1 : Option Value) (o2 : Option Value) (v3 : Int32) (v4 : Int32) (v5 : Int32) (o6 : Option Value) (o7 : Option Value) (o8 : Option Value) : px_run (px_mk (kX12_bonded X)) 91 ([o0, o1, o2, some (.int (v3)), some (.int (v4)), some (.int (v5)), o6, o7, o8], [], (hp M J R c e nL xs D)) =
    cond (decide (¬ v3 = 0))
    (px_run (px_mk (kX12_bonded X)) 100 ([none, none, none, some (.int (v3)), some (.int (v4)), some (.int (v5)), none, none, none], [], (hp M J R c e nL xs D)))
    (px_run (px_mk (kX12_bonded X)) 102 ([none, none, none, some (.int (v3)), some (.int (v4)), some (.int (v5)), none, none, none], [.int (v5)], (hp M J R c e nL xs D))) := (px_run_eq _ _ _).trans rfl
set_option maxRecDepth 40000 in
theorem eX12_bonded_25 (X : px_X) (M : Nat → Nat → Int32) (J : Nat → Nat → Int64) (R : Nat → Nat → Option Nat) (c e : Nat) (nL : Nat) (xs : Nat → Int32) (D : px_H) (v1 : Int32) (v2 : Int32) (v3 : Int32) (v4 : Int32) (v5 : Int32) (v6 : Int32) (v7 : Int32) (o8 : Option Value) : px_run (px_mk (kX12_bonded X)) 25 ([some (.ref 67), some (.int (v1)), some (.int (v2)), some (.int (v3)), some (.int (v4)), some (.int (v5)), some (.int (v6)), some (.int (v7)), o8], [], (hp M J R c e nL xs D)) =
    cond (decide (1 < v7))
    (px_run (px_mk (kX12_bonded X)) 85 ([some (.ref 67), some (.int (v1)), some (.int (v2)), some (.int (v3)), some (.int (v4)), some (.int (v5)), some (.int (v6)), some (.int (v7)), none], [], (hp M J R c e nL xs D)))
    (px_bd (X 232 [.ref 67, .int (v1), .int (v2), .int ((v7 * v6))] (hp M J R c e nL xs D))
    (fun v G1 => px_p (kX12_bonded X) 25 10 ([some (.ref 67), some (.int (v1)), some (.int (v2)), some (.int (v3)), some (.int (v4)), some (.int (v5)), some (.int (v6)), some (.int (v7)), none], px_psh v [], G1))) := (px_run_eq _ _ _).trans rfl
set_option maxRecDepth 40000 in
theorem eX12_bonded_100 (X : px_X) (M : Nat → Nat → Int32) (J : Nat → Nat → Int64) (R : Nat → Nat → Option Nat) (c e : Nat) (nL : Nat) (xs : Nat → Int32) (D : px_H) (o0 : Option Value) (o1 : Option Value) (o2 : Option Value) (o3 : Option Value) (v4 : Int32) (o5 : Option Value) (o6 : Option Value) (o7 : Option Value) (o8 : Option Value) : px_run (px_mk (kX12_bonded X)) 100 ([o0, o1, o2, o3, some (.int (v4)), o5, o6, o7, o8], [], (hp M J R c e nL xs D)) =
    px_run (px_mk (kX12_bonded X)) 102 ([none, none, none, none, some (.int (v4)), none, none, none, none], [.int (v4)], (hp M J R c e nL xs D)) := (px_run_eq _ _ _).trans rfl
set_option maxRecDepth 40000 in
theorem eX12_bonded_102 (X : px_X) (M : Nat → Nat → Int32) (J : Nat → Nat → Int64) (R : Nat → Nat → Option Nat) (c e : Nat) (nL : Nat) (xs : Nat → Int32) (D : px_H) (o0 : Option Value) (o1 : Option Value) (o2 : Option Value) (o3 : Option Value) (o4 : Option Value) (o5 : Option Value) (o6 : Option Value) (o7 : Option Value) (o8 : Option Value) (w0 : Int32) : px_run (px_mk (kX12_bonded X)) 102 ([o0, o1, o2, o3, o4, o5, o6, o7, o8], [.int (w0)], (hp M J R c e nL xs D)) =
    some (some (.int (w0)), (hp M J R c e nL xs D)) := (px_run_eq _ _ _).trans rfl
set_option maxRecDepth 40000 in
theorem eX12_bonded_85 (X : px_X) (M : Nat → Nat → Int32) (J : Nat → Nat → Int64) (R : Nat → Nat → Option Nat) (c e : Nat) (nL : Nat) (xs : Nat → Int32) (D : px_H) (v1 : Int32) (v2 : Int32) (v3 : Int32) (v4 : Int32) (v5 : Int32) (v6 : Int32) (o7 : Option Value) (o8 : Option Value) : px_run (px_mk (kX12_bonded X)) 85 ([some (.ref 67), some (.int (v1)), some (.int (v2)), some (.int (v3)), some (.int (v4)), some (.int (v5)), some (.int (v6)), o7, o8], [], (hp M J R c e nL xs D)) =
    px_run (px_mk (kX12_bonded X)) 15 ([some (.ref 67), some (.int (v1)), some (.int (v2)), some (.int (v3)), some (.int (v4)), some (.int (v5)), some (.int ((v6 + 1))), none, none], [], (hp M J R c e nL xs D)) := (px_run_eq _ _ _).trans rfl
set_option maxRecDepth 40000 in
theorem eX12_bonded_25_10 (X : px_X) (M : Nat → Nat → Int32) (J : Nat → Nat → Int64) (R : Nat → Nat → Option Nat) (c e : Nat) (nL : Nat) (xs : Nat → Int32) (D : px_H) (v1 : Int32) (v2 : Int32) (v3 : Int32) (v4 : Int32) (v5 : Int32) (v6 : Int32) (v7 : Int32) (w0 : Int32) : px_p (kX12_bonded X) 25 10 ([some (.ref 67), some (.int (v1)), some (.int (v2)), some (.int (v3)), some (.int (v4)), some (.int (v5)), some (.int (v6)), some (.int (v7)), none], [.int (w0)], (hp M J R c e nL xs D)) =
    cond (decide (w0 ≤ v5))
    (px_run (px_mk (kX12_bonded X)) 59 ([some (.ref 67), some (.int (v1)), some (.int (v2)), some (.int (v3)), some (.int (v4)), some (.int (v5)), some (.int (v6)), some (.int (v7)), some (.int (w0))], [], (hp M J R c e nL xs D)))
    (px_run (px_mk (kX12_bonded X)) 61 ([some (.ref 67), some (.int (v1)), some (.int (v2)), some (.int (v3)), some (.int (v4)), some (.int (v5)), some (.int (v6)), some (.int (v7)), some (.int (w0))], [.int ((v7 * v6))], (hp M J R c e nL xs D))) := rfl
set_option maxRecDepth 40000 in
theorem eX12_bonded_59 (X : px_X) (M : Nat → Nat → Int32) (J : Nat → Nat → Int64) (R : Nat → Nat → Option Nat) (c e : Nat) (nL : Nat) (xs : Nat → Int32) (D : px_H) (v1 : Int32) (v2 : Int32) (v3 : Int32) (v4 : Int32) (v5 : Int32) (v6 : Int32) (v7 : Int32) (v8 : Int32) : px_run (px_mk (kX12_bonded X)) 59 ([some (.ref 67), some (.int (v1)), some (.int (v2)), some (.int (v3)), some (.int (v4)), some (.int (v5)), some (.int (v6)), some (.int (v7)), some (.int (v8))], [], (hp M J R c e nL xs D)) =
    px_run (px_mk (kX12_bonded X)) 61 ([some (.ref 67), some (.int (v1)), some (.int (v2)), some (.int (v3)), some (.int (v4)), some (.int (v5)), some (.int (v6)), some (.int (v7)), some (.int (v8))], [.int (v4)], (hp M J R c e nL xs D)) := (px_run_eq _ _ _).trans rfl
set_option maxRecDepth 40000 in
theorem eX12_bonded_61 (X : px_X) (M : Nat → Nat → Int32) (J : Nat → Nat → Int64) (R : Nat → Nat → Option Nat) (c e : Nat) (nL : Nat) (xs : Nat → Int32) (D : px_H) (v1 : Int32) (v2 : Int32) (v3 : Int32) (o4 : Option Value) (v5 : Int32) (v6 : Int32) (v7 : Int32) (v8 : Int32) (w0 : Int32) : px_run (px_mk (kX12_bonded X)) 61 ([some (.ref 67), some (.int (v1)), some (.int (v2)), some (.int (v3)), o4, some (.int (v5)), some (.int (v6)), some (.int (v7)), some (.int (v8))], [.int (w0)], (hp M J R c e nL xs D)) =
    cond (decide (v8 ≤ v5))
    (px_run (px_mk (kX12_bonded X)) 75 ([some (.ref 67), some (.int (v1)), some (.int (v2)), some (.int (v3)), some (.int (w0)), some (.int (v5)), some (.int (v6)), some (.int (v7)), some (.int (v8))], [], (hp M J R c e nL xs D)))
    (px_run (px_mk (kX12_bonded X)) 77 ([some (.ref 67), some (.int (v1)), some (.int (v2)), some (.int (v3)), some (.int (w0)), some (.int (v5)), some (.int (v6)), some (.int (v7)), some (.int (v8))], [.int (v8)], (hp M J R c e nL xs D))) := (px_run_eq _ _ _).trans rfl
set_option maxRecDepth 40000 in
theorem eX12_bonded_75 (X : px_X) (M : Nat → Nat → Int32) (J : Nat → Nat → Int64) (R : Nat → Nat → Option Nat) (c e : Nat) (nL : Nat) (xs : Nat → Int32) (D : px_H) (v1 : Int32) (v2 : Int32) (v3 : Int32) (v4 : Int32) (v5 : Int32) (v6 : Int32) (v7 : Int32) (o8 : Option Value) : px_run (px_mk (kX12_bonded X)) 75 ([some (.ref 67), some (.int (v1)), some (.int (v2)), some (.int (v3)), some (.int (v4)), some (.int (v5)), some (.int (v6)), some (.int (v7)), o8], [], (hp M J R c e nL xs D)) =
    px_run (px_mk (kX12_bonded X)) 77 ([some (.ref 67), some (.int (v1)), some (.int (v2)), some (.int (v3)), some (.int (v4)), some (.int (v5)), some (.int (v6)), some (.int (v7)), none], [.int (v5)], (hp M J R c e nL xs D)) := (px_run_eq _ _ _).trans rfl
set_option maxRecDepth 40000 in
theorem eX12_bonded_77 (X : px_X) (M : Nat → Nat → Int32) (J : Nat → Nat → Int64) (R : Nat → Nat → Option Nat) (c e : Nat) (nL : Nat) (xs : Nat → Int32) (D : px_H) (v1 : Int32) (v2 : Int32) (v3 : Int32) (v4 : Int32) (o5 : Option Value) (v6 : Int32) (v7 : Int32) (o8 : Option Value) (w0 : Int32) : px_run (px_mk (kX12_bonded X)) 77 ([some (.ref 67), some (.int (v1)), some (.int (v2)), some (.int (v3)), some (.int (v4)), o5, some (.int (v6)), some (.int (v7)), o8], [.int (w0)], (hp M J R c e nL xs D)) =
    px_run (px_mk (kX12_bonded X)) 25 ([some (.ref 67), some (.int (v1)), some (.int (v2)), some (.int (v3)), some (.int (v4)), some (.int (w0)), some (.int (v6)), some (.int ((v7 + 2))), none], [], (hp M J R c e nL xs D)) := (px_run_eq _ _ _).trans rfl
set_option maxRecDepth 40000 in
theorem eX12_bond_0 (X : px_X) (M : Nat → Nat → Int32) (J : Nat → Nat → Int64) (R : Nat → Nat → Option Nat) (c e : Nat) (nL : Nat) (xs : Nat → Int32) (D : px_H) (v1 : Int32) (v2 : Int32) (v3 : Int32) : px_run (px_mk (kX12_bond X)) 0 ([some (.ref 67), some (.int (v1)), some (.int (v2)), some (.int (v3))], [], (hp M J R c e nL xs D)) =
    px_bd (X 183 [.ref 67, .int (v1)] (hp M J R c e nL xs D))
    (fun v G1 => px_p (kX12_bond X) 0 3 ([some (.ref 67), some (.int (v1)), some (.int (v2)), some (.int (v3))], px_psh v [], G1)) := (px_run_eq _ _ _).trans rfl
set_option maxRecDepth 40000 in
theorem eX12_bond_0_3 (X : px_X) (M : Nat → Nat → Int32) (J : Nat → Nat → Int64) (R : Nat → Nat → Option Nat) (c e : Nat) (nL : Nat) (xs : Nat → Int32) (D : px_H) (v1 : Int32) (v2 : Int32) (v3 : Int32) (w0 : Int32) : px_p (kX12_bond X) 0 3 ([some (.ref 67), some (.int (v1)), some (.int (v2)), some (.int (v3))], [.int (w0)], (hp M J R c e nL xs D)) =
    cond (decide (w0 = 0))
    (px_run (px_mk (kX12_bond X)) 40 ([some (.ref 67), some (.int (v1)), some (.int (v2)), some (.int (v3))], [], (hp M J R c e nL xs D)))
    (px_bd (X 183 [.ref 67, .int (v2)] (hp M J R c e nL xs D))
    (fun v G1 => px_p (kX12_bond X) 0 7 ([some (.ref 67), some (.int (v1)), some (.int (v2)), some (.int (v3))], px_psh v [], G1))) := rfl
set_option maxRecDepth 40000 in
theorem eX12_bond_40 (X : px_X) (M : Nat → Nat → Int32) (J : Nat → Nat → Int64) (R : Nat → Nat → Option Nat) (c e : Nat) (nL : Nat) (xs : Nat → Int32) (D : px_H) (o0 : Option Value) (o1 : Option Value) (o2 : Option Value) (o3 : Option Value) : px_run (px_mk (kX12_bond X)) 40 ([o0, o1, o2, o3], [], (hp M J R c e nL xs D)) =
    px_run (px_mk (kX12_bond X)) 43 ([none, none, none, none], [.int ((-1000))], (hp M J R c e nL xs D)) := (px_run_eq _ _ _).trans rfl
set_option maxRecDepth 40000 in
theorem eX12_bond_0_7 (X : px_X) (M : Nat → Nat → Int32) (J : Nat → Nat → Int64) (R : Nat → Nat → Option Nat) (c e : Nat) (nL : Nat) (xs : Nat → Int32) (D : px_H) (v1 : Int32) (v2 : Int32) (v3 : Int32) (w0 : Int32) : px_p (kX12_bond X) 0 7 ([some (.ref 67), some (.int (v1)), some (.int (v2)), some (.int (v3))], [.int (w0)], (hp M J R c e nL xs D)) =
    cond (decide (w0 = 0))
    (px_run (px_mk (kX12_bond X)) 40 ([some (.ref 67), some (.int (v1)), some (.int (v2)), some (.int (v3))], [], (hp M J R c e nL xs D)))
    (cond (decide (v1 = v2))
    (px_run (px_mk (kX12_bond X)) 40 ([some (.ref 67), some (.int (v1)), some (.int (v2)), some (.int (v3))], [], (hp M J R c e nL xs D)))
    (px_bd (X 165 [.int (v3), .int (0), .int (1)] (hp M J R c e nL xs D))
    (fun v G1 => px_p (kX12_bond X) 0 15 ([some (.ref 67), some (.int (v1)), some (.int (v2)), some (.int (v3))], px_psh v [], G1)))) := rfl
set_option maxRecDepth 40000 in
theorem eX12_bond_43 (X : px_X) (M : Nat → Nat → Int32) (J : Nat → Nat → Int64) (R : Nat → Nat → Option Nat) (c e : Nat) (nL : Nat) (xs : Nat → Int32) (D : px_H) (o0 : Option Value) (o1 : Option Value) (o2 : Option Value) (o3 : Option Value) (w0 : Int32) : px_run (px_mk (kX12_bond X)) 43 ([o0, o1, o2, o3], [.int (w0)], (hp M J R c e nL xs D)) =
    some (some (.int (w0)), (hp M J R c e nL xs D)) := (px_run_eq _ _ _).trans rfl
set_option maxRecDepth 40000 in
theorem eX12_bond_0_15 (X : px_X) (M : Nat → Nat → Int32) (J : Nat → Nat → Int64) (R : Nat → Nat → Option Nat) (c e : Nat) (nL : Nat) (xs : Nat → Int32) (D : px_H) (v1 : Int32) (v2 : Int32) (v3 : Int32) (w0 : Int32) : px_p (kX12_bond X) 0 15 ([some (.ref 67), some (.int (v1)), some (.int (v2)), some (.int (v3))], [.int (w0)], (hp M J R c e nL xs D)) =
    cond (decide (w0 = 0))
    (px_run (px_mk (kX12_bond X)) 40 ([some (.ref 67), some (.int (v1)), some (.int (v2)), some (.int (v3))], [], (hp M J R c e nL xs D)))
    (px_bd (X 233 [.ref 67, .int (v1), .int (v2), .int (v3)] (hp M J R c e nL xs D))
    (fun v G1 => px_p (kX12_bond X) 0 21 ([some (.ref 67), some (.int (v1)), some (.int (v2)), some (.int (v3))], px_psh v [], G1))) := rfl
set_option maxRecDepth 40000 in
theorem eX12_bond_0_21 (X : px_X) (M : Nat → Nat → Int32) (J : Nat → Nat → Int64) (R : Nat → Nat → Option Nat) (c e : Nat) (nL : Nat) (xs : Nat → Int32) (D : px_H) (v1 : Int32) (v2 : Int32) (v3 : Int32) (w0 : Int32) : px_p (kX12_bond X) 0 21 ([some (.ref 67), some (.int (v1)), some (.int (v2)), some (.int (v3))], [.int (w0)], (hp M J R c e nL xs D)) =
    px_run (px_mk (kX12_bond X)) 43 ([some (.ref 67), some (.int (v1)), some (.int (v2)), some (.int (v3))], [.int (w0)], (hp M J R c e nL xs D)) := rfl
set_option maxRecDepth 40000 in
theorem eX12_bestOf_0 (X : px_X) (M : Nat → Nat → Int32) (J : Nat → Nat → Int64) (R : Nat → Nat → Option Nat) (c e : Nat) (nL : Nat) (xs : Nat → Int32) (D : px_H) (v1 : Int32) : px_run (px_mk (kX12_bestOf X)) 0 ([some (.ref 67), some (.int (v1)), none, none, none], [], (hp M J R c e nL xs D)) =
    px_run (px_mk (kX12_bestOf X)) 7 ([some (.ref 67), some (.int (v1)), some (.int ((-1))), some (.int (1)), some (.int (0))], [], (hp M J R c e nL xs D)) := (px_run_eq _ _ _).trans rfl
set_option maxRecDepth 40000 in
theorem eX12_bestOf_7 (X : px_X) (M : Nat → Nat → Int32) (J : Nat → Nat → Int64) (R : Nat → Nat → Option Nat) (c e : Nat) (nL : Nat) (xs : Nat → Int32) (D : px_H) (v1 : Int32) (v2 : Int32) (v3 : Int32) (v4 : Int32) : px_run (px_mk (kX12_bestOf X)) 7 ([some (.ref 67), some (.int (v1)), some (.int (v2)), some (.int (v3)), some (.int (v4))], [], (hp M J R c e nL xs D)) =
    cond (decide (M 67 13 ≤ v4))
    (px_run (px_mk (kX12_bestOf X)) 63 ([some (.ref 67), some (.int (v1)), some (.int (v2)), some (.int (v3)), some (.int (v4))], [], (hp M J R c e nL xs D)))
    (cond (decide (v4 = v1))
    (px_run (px_mk (kX12_bestOf X)) 57 ([some (.ref 67), some (.int (v1)), some (.int (v2)), some (.int (v3)), some (.int (v4))], [], (hp M J R c e nL xs D)))
    (cond (px_inb (v4) 20)
    (cond (decide (¬ ((M 77) (Int32.toNatClampNeg (v4))) = 1))
    (px_run (px_mk (kX12_bestOf X)) 57 ([some (.ref 67), some (.int (v1)), some (.int (v2)), some (.int (v3)), some (.int (v4))], [], (hp M J R c e nL xs D)))
    (px_bd (X 233 [.ref 67, .int (v1), .int (v4), .int (0)] (hp M J R c e nL xs D))
    (fun v G1 => px_p (kX12_bestOf X) 7 18 ([some (.ref 67), some (.int (v1)), some (.int (v2)), some (.int (v3)), some (.int (v4))], px_psh v [], G1)))) none)) := (px_run_eq _ _ _).trans rfl
set_option maxRecDepth 40000 in
theorem eX12_bestOf_63 (X : px_X) (M : Nat → Nat → Int32) (J : Nat → Nat → Int64) (R : Nat → Nat → Option Nat) (c e : Nat) (nL : Nat) (xs : Nat → Int32) (D : px_H) (o0 : Option Value) (o1 : Option Value) (v2 : Int32) (o3 : Option Value) (o4 : Option Value) : px_run (px_mk (kX12_bestOf X)) 63 ([o0, o1, some (.int (v2)), o3, o4], [], (hp M J R c e nL xs D)) =
    some (some (.int (v2)), (hp M J R c e nL xs D)) := (px_run_eq _ _ _).trans rfl
set_option maxRecDepth 40000 in
theorem eX12_bestOf_57 (X : px_X) (M : Nat → Nat → Int32) (J : Nat → Nat → Int64) (R : Nat → Nat → Option Nat) (c e : Nat) (nL : Nat) (xs : Nat → Int32) (D : px_H) (v1 : Int32) (v2 : Int32) (v3 : Int32) (v4 : Int32) : px_run (px_mk (kX12_bestOf X)) 57 ([some (.ref 67), some (.int (v1)), some (.int (v2)), some (.int (v3)), some (.int (v4))], [], (hp M J R c e nL xs D)) =
    px_run (px_mk (kX12_bestOf X)) 7 ([some (.ref 67), some (.int (v1)), some (.int (v2)), some (.int (v3)), some (.int ((v4 + 1)))], [], (hp M J R c e nL xs D)) := (px_run_eq _ _ _).trans rfl
set_option maxRecDepth 40000 in
theorem eX12_bestOf_7_18 (X : px_X) (M : Nat → Nat → Int32) (J : Nat → Nat → Int64) (R : Nat → Nat → Option Nat) (c e : Nat) (nL : Nat) (xs : Nat → Int32) (D : px_H) (v1 : Int32) (v2 : Int32) (v3 : Int32) (v4 : Int32) (w0 : Int32) : px_p (kX12_bestOf X) 7 18 ([some (.ref 67), some (.int (v1)), some (.int (v2)), some (.int (v3)), some (.int (v4))], [.int (w0)], (hp M J R c e nL xs D)) =
    cond (decide (w0 ≤ v3))
    (px_run (px_mk (kX12_bestOf X)) 57 ([some (.ref 67), some (.int (v1)), some (.int (v2)), some (.int (v3)), some (.int (v4))], [], (hp M J R c e nL xs D)))
    (px_bd (X 233 [.ref 67, .int (v1), .int (v4), .int (0)] (hp M J R c e nL xs D))
    (fun v G1 => px_p (kX12_bestOf X) 7 25 ([some (.ref 67), some (.int (v1)), some (.int (v2)), some (.int (v3)), some (.int (v4))], px_psh v [], G1))) := rfl
set_option maxRecDepth 40000 in
theorem eX12_bestOf_7_25 (X : px_X) (M : Nat → Nat → Int32) (J : Nat → Nat → Int64) (R : Nat → Nat → Option Nat) (c e : Nat) (nL : Nat) (xs : Nat → Int32) (D : px_H) (v1 : Int32) (v2 : Int32) (v3 : Int32) (v4 : Int32) (w0 : Int32) : px_p (kX12_bestOf X) 7 25 ([some (.ref 67), some (.int (v1)), some (.int (v2)), some (.int (v3)), some (.int (v4))], [.int (w0)], (hp M J R c e nL xs D)) =
    px_run (px_mk (kX12_bestOf X)) 57 ([some (.ref 67), some (.int (v1)), some (.int (v4)), some (.int (w0)), some (.int (v4))], [], (hp M J R c e nL xs D)) := rfl
set_option maxRecDepth 40000 in
theorem eX12_best_0 (X : px_X) (M : Nat → Nat → Int32) (J : Nat → Nat → Int64) (R : Nat → Nat → Option Nat) (c e : Nat) (nL : Nat) (xs : Nat → Int32) (D : px_H) (v1 : Int32) : px_run (px_mk (kX12_best X)) 0 ([some (.ref 67), some (.int (v1))], [], (hp M J R c e nL xs D)) =
    px_bd (X 183 [.ref 67, .int (v1)] (hp M J R c e nL xs D))
    (fun v G1 => px_p (kX12_best X) 0 3 ([some (.ref 67), some (.int (v1))], px_psh v [], G1)) := (px_run_eq _ _ _).trans rfl
set_option maxRecDepth 40000 in
theorem eX12_best_0_3 (X : px_X) (M : Nat → Nat → Int32) (J : Nat → Nat → Int64) (R : Nat → Nat → Option Nat) (c e : Nat) (nL : Nat) (xs : Nat → Int32) (D : px_H) (v1 : Int32) (w0 : Int32) : px_p (kX12_best X) 0 3 ([some (.ref 67), some (.int (v1))], [.int (w0)], (hp M J R c e nL xs D)) =
    cond (decide (w0 = 0))
    (px_run (px_mk (kX12_best X)) 16 ([some (.ref 67), some (.int (v1))], [], (hp M J R c e nL xs D)))
    (px_bd (X 235 [.ref 67, .int (v1)] (hp M J R c e nL xs D))
    (fun v G1 => px_p (kX12_best X) 0 7 ([some (.ref 67), some (.int (v1))], px_psh v [], G1))) := rfl
set_option maxRecDepth 40000 in
theorem eX12_best_16 (X : px_X) (M : Nat → Nat → Int32) (J : Nat → Nat → Int64) (R : Nat → Nat → Option Nat) (c e : Nat) (nL : Nat) (xs : Nat → Int32) (D : px_H) (o0 : Option Value) (o1 : Option Value) : px_run (px_mk (kX12_best X)) 16 ([o0, o1], [], (hp M J R c e nL xs D)) =
    px_run (px_mk (kX12_best X)) 18 ([none, none], [.int ((-2))], (hp M J R c e nL xs D)) := (px_run_eq _ _ _).trans rfl
set_option maxRecDepth 40000 in
theorem eX12_best_0_7 (X : px_X) (M : Nat → Nat → Int32) (J : Nat → Nat → Int64) (R : Nat → Nat → Option Nat) (c e : Nat) (nL : Nat) (xs : Nat → Int32) (D : px_H) (v1 : Int32) (w0 : Int32) : px_p (kX12_best X) 0 7 ([some (.ref 67), some (.int (v1))], [.int (w0)], (hp M J R c e nL xs D)) =
    px_run (px_mk (kX12_best X)) 18 ([some (.ref 67), some (.int (v1))], [.int (w0)], (hp M J R c e nL xs D)) := rfl
set_option maxRecDepth 40000 in
theorem eX12_best_18 (X : px_X) (M : Nat → Nat → Int32) (J : Nat → Nat → Int64) (R : Nat → Nat → Option Nat) (c e : Nat) (nL : Nat) (xs : Nat → Int32) (D : px_H) (o0 : Option Value) (o1 : Option Value) (w0 : Int32) : px_run (px_mk (kX12_best X)) 18 ([o0, o1], [.int (w0)], (hp M J R c e nL xs D)) =
    some (some (.int (w0)), (hp M J R c e nL xs D)) := (px_run_eq _ _ _).trans rfl
set_option maxRecDepth 40000 in
theorem eX12_joined_0 (X : px_X) (M : Nat → Nat → Int32) (J : Nat → Nat → Int64) (R : Nat → Nat → Option Nat) (c e : Nat) (nL : Nat) (xs : Nat → Int32) (D : px_H) (v1 : Int32) : px_run (px_mk (kX12_joined X)) 0 ([some (.ref 67), some (.int (v1)), none], [], (hp M J R c e nL xs D)) =
    px_bd (X 183 [.ref 67, .int (v1)] (hp M J R c e nL xs D))
    (fun v G1 => px_p (kX12_joined X) 0 3 ([some (.ref 67), some (.int (v1)), none], px_psh v [], G1)) := (px_run_eq _ _ _).trans rfl
set_option maxRecDepth 40000 in
theorem eX12_joined_0_3 (X : px_X) (M : Nat → Nat → Int32) (J : Nat → Nat → Int64) (R : Nat → Nat → Option Nat) (c e : Nat) (nL : Nat) (xs : Nat → Int32) (D : px_H) (v1 : Int32) (w0 : Int32) : px_p (kX12_joined X) 0 3 ([some (.ref 67), some (.int (v1)), none], [.int (w0)], (hp M J R c e nL xs D)) =
    cond (decide (¬ w0 = 0))
    (px_run (px_mk (kX12_joined X)) 11 ([some (.ref 67), some (.int (v1)), none], [], (hp M J R c e nL xs D)))
    (some (some (.int ((-2))), (hp M J R c e nL xs D))) := rfl
set_option maxRecDepth 40000 in
theorem eX12_joined_11 (X : px_X) (M : Nat → Nat → Int32) (J : Nat → Nat → Int64) (R : Nat → Nat → Option Nat) (c e : Nat) (nL : Nat) (xs : Nat → Int32) (D : px_H) (v1 : Int32) (o2 : Option Value) : px_run (px_mk (kX12_joined X)) 11 ([some (.ref 67), some (.int (v1)), o2], [], (hp M J R c e nL xs D)) =
    px_bd (X 235 [.ref 67, .int (v1)] (hp M J R c e nL xs D))
    (fun v G1 => px_p (kX12_joined X) 11 3 ([some (.ref 67), some (.int (v1)), none], px_psh v [], G1)) := (px_run_eq _ _ _).trans rfl
set_option maxRecDepth 40000 in
theorem eX12_joined_11_3 (X : px_X) (M : Nat → Nat → Int32) (J : Nat → Nat → Int64) (R : Nat → Nat → Option Nat) (c e : Nat) (nL : Nat) (xs : Nat → Int32) (D : px_H) (v1 : Int32) (w0 : Int32) : px_p (kX12_joined X) 11 3 ([some (.ref 67), some (.int (v1)), none], [.int (w0)], (hp M J R c e nL xs D)) =
    cond (decide (w0 = (-1)))
    (px_run (px_mk (kX12_joined X)) 35 ([some (.ref 67), some (.int (v1)), some (.int (w0))], [], (hp M J R c e nL xs D)))
    (px_bd (X 235 [.ref 67, .int (w0)] (hp M J R c e nL xs D))
    (fun v G1 => px_p (kX12_joined X) 11 10 ([some (.ref 67), some (.int (v1)), some (.int (w0))], px_psh v [], G1))) := rfl
set_option maxRecDepth 40000 in
theorem eX12_joined_35 (X : px_X) (M : Nat → Nat → Int32) (J : Nat → Nat → Int64) (R : Nat → Nat → Option Nat) (c e : Nat) (nL : Nat) (xs : Nat → Int32) (D : px_H) (o0 : Option Value) (o1 : Option Value) (o2 : Option Value) : px_run (px_mk (kX12_joined X)) 35 ([o0, o1, o2], [], (hp M J R c e nL xs D)) =
    px_run (px_mk (kX12_joined X)) 36 ([none, none, none], [.int ((-1))], (hp M J R c e nL xs D)) := (px_run_eq _ _ _).trans rfl
set_option maxRecDepth 40000 in
theorem eX12_joined_11_10 (X : px_X) (M : Nat → Nat → Int32) (J : Nat → Nat → Int64) (R : Nat → Nat → Option Nat) (c e : Nat) (nL : Nat) (xs : Nat → Int32) (D : px_H) (v1 : Int32) (v2 : Int32) (w0 : Int32) : px_p (kX12_joined X) 11 10 ([some (.ref 67), some (.int (v1)), some (.int (v2))], [.int (w0)], (hp M J R c e nL xs D)) =
    cond (decide (¬ w0 = v1))
    (px_run (px_mk (kX12_joined X)) 35 ([some (.ref 67), some (.int (v1)), some (.int (v2))], [], (hp M J R c e nL xs D)))
    (px_run (px_mk (kX12_joined X)) 36 ([some (.ref 67), some (.int (v1)), some (.int (v2))], [.int (v2)], (hp M J R c e nL xs D))) := rfl
set_option maxRecDepth 40000 in
theorem eX12_joined_36 (X : px_X) (M : Nat → Nat → Int32) (J : Nat → Nat → Int64) (R : Nat → Nat → Option Nat) (c e : Nat) (nL : Nat) (xs : Nat → Int32) (D : px_H) (o0 : Option Value) (o1 : Option Value) (o2 : Option Value) (w0 : Int32) : px_run (px_mk (kX12_joined X)) 36 ([o0, o1, o2], [.int (w0)], (hp M J R c e nL xs D)) =
    some (some (.int (w0)), (hp M J R c e nL xs D)) := (px_run_eq _ _ _).trans rfl
set_option maxRecDepth 40000 in
theorem eX12_task_0 (X : px_X) (M : Nat → Nat → Int32) (J : Nat → Nat → Int64) (R : Nat → Nat → Option Nat) (c e : Nat) (nL : Nat) (xs : Nat → Int32) (D : px_H) (v1 : Int32) (v2 : Int32) : px_run (px_mk (kX12_task X)) 0 ([some (.ref 67), some (.int (v1)), some (.int (v2))], [], (hp M J R c e nL xs D)) =
    px_bd (X 165 [.int (v1), .int (1), .int (200)] (hp M J R c e nL xs D))
    (fun v G1 => px_p (kX12_task X) 0 4 ([some (.ref 67), some (.int (v1)), some (.int (v2))], px_psh v [], G1)) := (px_run_eq _ _ _).trans rfl
set_option maxRecDepth 40000 in
theorem eX12_task_0_4 (X : px_X) (M : Nat → Nat → Int32) (J : Nat → Nat → Int64) (R : Nat → Nat → Option Nat) (c e : Nat) (nL : Nat) (xs : Nat → Int32) (D : px_H) (v1 : Int32) (v2 : Int32) (w0 : Int32) : px_p (kX12_task X) 0 4 ([some (.ref 67), some (.int (v1)), some (.int (v2))], [.int (w0)], (hp M J R c e nL xs D)) =
    cond (decide (w0 = 0))
    (px_run (px_mk (kX12_task X)) 22 ([some (.ref 67), some (.int (v1)), some (.int (v2))], [], (hp M J R c e nL xs D)))
    (px_bd (X 165 [.int (v2), .int (0), .int (999)] (hp M J R c e nL xs D))
    (fun v G1 => px_p (kX12_task X) 0 9 ([some (.ref 67), some (.int (v1)), some (.int (v2))], px_psh v [], G1))) := rfl
set_option maxRecDepth 40000 in
theorem eX12_task_22 (X : px_X) (M : Nat → Nat → Int32) (J : Nat → Nat → Int64) (R : Nat → Nat → Option Nat) (c e : Nat) (nL : Nat) (xs : Nat → Int32) (D : px_H) (o0 : Option Value) (o1 : Option Value) (o2 : Option Value) : px_run (px_mk (kX12_task X)) 22 ([o0, o1, o2], [], (hp M J R c e nL xs D)) =
    some (some (.int ((-2))), (hp M J R c e nL xs D)) := (px_run_eq _ _ _).trans rfl
set_option maxRecDepth 40000 in
theorem eX12_task_0_9 (X : px_X) (M : Nat → Nat → Int32) (J : Nat → Nat → Int64) (R : Nat → Nat → Option Nat) (c e : Nat) (nL : Nat) (xs : Nat → Int32) (D : px_H) (v1 : Int32) (v2 : Int32) (w0 : Int32) : px_p (kX12_task X) 0 9 ([some (.ref 67), some (.int (v1)), some (.int (v2))], [.int (w0)], (hp M J R c e nL xs D)) =
    cond (decide (¬ w0 = 0))
    (px_run (px_mk (kX12_task X)) 25 ([some (.ref 67), some (.int (v1)), some (.int (v2))], [], (hp M J R c e nL xs D)))
    (px_run (px_mk (kX12_task X)) 22 ([some (.ref 67), some (.int (v1)), some (.int (v2))], [], (hp M J R c e nL xs D))) := rfl
set_option maxRecDepth 40000 in
theorem eX12_task_25 (X : px_X) (M : Nat → Nat → Int32) (J : Nat → Nat → Int64) (R : Nat → Nat → Option Nat) (c e : Nat) (nL : Nat) (xs : Nat → Int32) (D : px_H) (v1 : Int32) (v2 : Int32) : px_run (px_mk (kX12_task X)) 25 ([some (.ref 67), some (.int (v1)), some (.int (v2))], [], (hp M J R c e nL xs D)) =
    cond (decide (¬ M 67 42 = 9))
    (px_run (px_mk (kX12_task X)) 37 ([some (.ref 67), some (.int (v1)), some (.int (v2))], [], (hp M J R c e nL xs D)))
    (some (some (.int ((-4))), (hp M J R c e nL xs D))) := (px_run_eq _ _ _).trans rfl
set_option maxRecDepth 40000 in
theorem eX12_task_37 (X : px_X) (M : Nat → Nat → Int32) (J : Nat → Nat → Int64) (R : Nat → Nat → Option Nat) (c e : Nat) (nL : Nat) (xs : Nat → Int32) (D : px_H) (v1 : Int32) (v2 : Int32) : px_run (px_mk (kX12_task X)) 37 ([some (.ref 67), some (.int (v1)), some (.int (v2))], [], (hp M J R c e nL xs D)) =
    cond (px_inb (M 67 42) 9)
    (cond (px_inb (M 67 42) 9)
    (some (some (.int (((M 67 42 + 1) - 1))), (hp (px_uR (px_uR (px_uR M 99 (upd (M 99) (Int32.toNatClampNeg (M 67 42)) (v1))) 100 (upd (M 100) (Int32.toNatClampNeg (M 67 42)) (v2))) 67 (upd (upd (M 67) 42 ((M 67 42 + 1))) 47 (0))) J R c e nL xs D))) none) none := (px_run_eq _ _ _).trans rfl
set_option maxRecDepth 40000 in
theorem eX12_gang_0 (X : px_X) (M : Nat → Nat → Int32) (J : Nat → Nat → Int64) (R : Nat → Nat → Option Nat) (c e : Nat) (nL : Nat) (xs : Nat → Int32) (D : px_H) (v1 : Int32) : px_run (px_mk (kX12_gang X)) 0 ([some (.ref 67), some (.int (v1))], [], (hp M J R c e nL xs D)) =
    px_bd (X 165 [.int (v1), .int (0), .int (400)] (hp M J R c e nL xs D))
    (fun v G1 => px_p (kX12_gang X) 0 4 ([some (.ref 67), some (.int (v1))], px_psh v [], G1)) := (px_run_eq _ _ _).trans rfl
set_option maxRecDepth 40000 in
theorem eX12_gang_0_4 (X : px_X) (M : Nat → Nat → Int32) (J : Nat → Nat → Int64) (R : Nat → Nat → Option Nat) (c e : Nat) (nL : Nat) (xs : Nat → Int32) (D : px_H) (v1 : Int32) (w0 : Int32) : px_p (kX12_gang X) 0 4 ([some (.ref 67), some (.int (v1))], [.int (w0)], (hp M J R c e nL xs D)) =
    cond (decide (¬ w0 = 0))
    (px_run (px_mk (kX12_gang X)) 14 ([some (.ref 67), some (.int (v1))], [], (hp M J R c e nL xs D)))
    (some (some (.int ((-2))), (hp M J R c e nL xs D))) := rfl
set_option maxRecDepth 40000 in
theorem eX12_gang_14 (X : px_X) (M : Nat → Nat → Int32) (J : Nat → Nat → Int64) (R : Nat → Nat → Option Nat) (c e : Nat) (nL : Nat) (xs : Nat → Int32) (D : px_H) (v1 : Int32) : px_run (px_mk (kX12_gang X)) 14 ([some (.ref 67), some (.int (v1))], [], (hp M J R c e nL xs D)) =
    cond (decide (¬ M 67 45 = 4))
    (px_run (px_mk (kX12_gang X)) 25 ([some (.ref 67), some (.int (v1))], [], (hp M J R c e nL xs D)))
    (some (some (.int ((-4))), (hp M J R c e nL xs D))) := (px_run_eq _ _ _).trans rfl
set_option maxRecDepth 40000 in
theorem eX12_gang_25 (X : px_X) (M : Nat → Nat → Int32) (J : Nat → Nat → Int64) (R : Nat → Nat → Option Nat) (c e : Nat) (nL : Nat) (xs : Nat → Int32) (D : px_H) (v1 : Int32) : px_run (px_mk (kX12_gang X)) 25 ([some (.ref 67), some (.int (v1))], [], (hp M J R c e nL xs D)) =
    cond (px_inb (M 67 45) 4)
    (some (some (.int (((M 67 45 + 1) - 1))), (hp (px_uR (px_uR M 101 (upd (M 101) (Int32.toNatClampNeg (M 67 45)) (v1))) 67 (upd (upd (M 67) 45 ((M 67 45 + 1))) 47 (0))) J R c e nL xs D))) none := (px_run_eq _ _ _).trans rfl
set_option maxRecDepth 40000 in
theorem eX12_tries_0 (X : px_X) (M : Nat → Nat → Int32) (J : Nat → Nat → Int64) (R : Nat → Nat → Option Nat) (c e : Nat) (nL : Nat) (xs : Nat → Int32) (D : px_H) (v1 : Int32) (v2 : Int32) (v3 : Int32) : px_run (px_mk (kX12_tries X)) 0 ([some (.ref 67), some (.int (v1)), some (.int (v2)), some (.int (v3)), none], [], (hp M J R c e nL xs D)) =
    cond (decide (M 67 65 < (v2 + v3)))
    (px_run (px_mk (kX12_tries X)) 11 ([some (.ref 67), some (.int (v1)), some (.int (v2)), some (.int (v3)), none], [], (hp M J R c e nL xs D)))
    (some (none, (hp M J R c e nL xs D))) := (px_run_eq _ _ _).trans rfl
set_option maxRecDepth 40000 in
theorem eX12_tries_11 (X : px_X) (M : Nat → Nat → Int32) (J : Nat → Nat → Int64) (R : Nat → Nat → Option Nat) (c e : Nat) (nL : Nat) (xs : Nat → Int32) (D : px_H) (v1 : Int32) (v2 : Int32) (v3 : Int32) (o4 : Option Value) : px_run (px_mk (kX12_tries X)) 11 ([some (.ref 67), some (.int (v1)), some (.int (v2)), some (.int (v3)), o4], [], (hp M J R c e nL xs D)) =
    cond (decide (¬ v1 = M 67 42))
    (px_run (px_mk (kX12_tries X)) 57 ([some (.ref 67), some (.int (v1)), some (.int (v2)), some (.int (v3)), none], [], (hp M J R c e nL xs D)))
    (px_run (px_mk (kX12_tries X)) 27 ([some (.ref 67), some (.int (v1)), some (.int (v2)), some (.int (v3)), some (.int (0))], [], (hp (px_uR M 67 (upd (M 67) 65 (v2))) J R c e nL xs D))) := (px_run_eq _ _ _).trans rfl
set_option maxRecDepth 40000 in
theorem eX12_tries_57 (X : px_X) (M : Nat → Nat → Int32) (J : Nat → Nat → Int64) (R : Nat → Nat → Option Nat) (c e : Nat) (nL : Nat) (xs : Nat → Int32) (D : px_H) (v1 : Int32) (v2 : Int32) (v3 : Int32) (o4 : Option Value) : px_run (px_mk (kX12_tries X)) 57 ([some (.ref 67), some (.int (v1)), some (.int (v2)), some (.int (v3)), o4], [], (hp M J R c e nL xs D)) =
    px_run (px_mk (kX12_tries X)) 60 ([some (.ref 67), some (.int (v1)), some (.int (v2)), some (.int (v3)), some (.int (0))], [], (hp M J R c e nL xs D)) := (px_run_eq _ _ _).trans rfl
set_option maxRecDepth 40000 in
theorem eX12_tries_27 (X : px_X) (M : Nat → Nat → Int32) (J : Nat → Nat → Int64) (R : Nat → Nat → Option Nat) (c e : Nat) (nL : Nat) (xs : Nat → Int32) (D : px_H) (o1 : Option Value) (o2 : Option Value) (o3 : Option Value) (v4 : Int32) : px_run (px_mk (kX12_tries X)) 27 ([some (.ref 67), o1, o2, o3, some (.int (v4))], [], (hp M J R c e nL xs D)) =
    cond (decide (M 67 42 ≤ v4))
    (px_run (px_mk (kX12_tries X)) 56 ([some (.ref 67), none, none, none, some (.int (v4))], [], (hp M J R c e nL xs D)))
    (cond (px_inb (v4) 9)
    (cond (px_inb (v4) 9)
    (px_run (px_mk (kX12_tries X)) 27 ([some (.ref 67), none, none, none, some (.int ((v4 + 1)))], [], (hp (px_uR M 109 (upd (M 109) (Int32.toNatClampNeg (v4)) (((M 108) (Int32.toNatClampNeg (v4)))))) J R c e nL xs D))) none) none) := (px_run_eq _ _ _).trans rfl
set_option maxRecDepth 40000 in
theorem eX12_tries_60 (X : px_X) (M : Nat → Nat → Int32) (J : Nat → Nat → Int64) (R : Nat → Nat → Option Nat) (c e : Nat) (nL : Nat) (xs : Nat → Int32) (D : px_H) (v1 : Int32) (v2 : Int32) (v3 : Int32) (v4 : Int32) : px_run (px_mk (kX12_tries X)) 60 ([some (.ref 67), some (.int (v1)), some (.int (v2)), some (.int (v3)), some (.int (v4))], [], (hp M J R c e nL xs D)) =
    cond (decide (M 67 45 ≤ v4))
    (px_run (px_mk (kX12_tries X)) 154 ([some (.ref 67), some (.int (v1)), some (.int (v2)), some (.int (v3)), some (.int (v4))], [], (hp M J R c e nL xs D)))
    (cond (px_inb (v4) 4)
    (cond (px_inb (v1) 9)
    (cond (decide (((M 110) (Int32.toNatClampNeg (v4))) < ((M 99) (Int32.toNatClampNeg (v1)))))
    (px_run (px_mk (kX12_tries X)) 148 ([some (.ref 67), some (.int (v1)), some (.int (v2)), some (.int (v3)), some (.int (v4))], [], (hp M J R c e nL xs D)))
    (cond (px_inb (v4) 4)
    (cond (px_inb (v1) 9)
    (cond (px_inb (v4) 4)
    (cond (px_inb (v1) 9)
    (cond (px_inb (v1) 9)
    (cond (px_inb (v1) 9)
    (px_bd (X 240 [.ref 67, .int ((v1 + 1)), .int ((v2 + ((M 100) (Int32.toNatClampNeg (v1))))), .int ((v3 - ((M 100) (Int32.toNatClampNeg (v1)))))] (hp (px_uR (px_uR M 110 (upd (M 110) (Int32.toNatClampNeg (v4)) ((((M 110) (Int32.toNatClampNeg (v4))) - ((M 99) (Int32.toNatClampNeg (v1))))))) 108 (upd (M 108) (Int32.toNatClampNeg (v1)) (v4))) J R c e nL xs D))
    (fun v G1 => px_p (kX12_tries X) 60 46 ([some (.ref 67), some (.int (v1)), some (.int (v2)), some (.int (v3)), some (.int (v4))], px_psh v [], G1))) none) none) none) none) none) none)) none) none) := (px_run_eq _ _ _).trans rfl
set_option maxRecDepth 40000 in
theorem eX12_tries_56 (X : px_X) (M : Nat → Nat → Int32) (J : Nat → Nat → Int64) (R : Nat → Nat → Option Nat) (c e : Nat) (nL : Nat) (xs : Nat → Int32) (D : px_H) (o0 : Option Value) (o1 : Option Value) (o2 : Option Value) (o3 : Option Value) (o4 : Option Value) : px_run (px_mk (kX12_tries X)) 56 ([o0, o1, o2, o3, o4], [], (hp M J R c e nL xs D)) =
    some (none, (hp M J R c e nL xs D)) := (px_run_eq _ _ _).trans rfl
set_option maxRecDepth 40000 in
theorem eX12_tries_154 (X : px_X) (M : Nat → Nat → Int32) (J : Nat → Nat → Int64) (R : Nat → Nat → Option Nat) (c e : Nat) (nL : Nat) (xs : Nat → Int32) (D : px_H) (v1 : Int32) (v2 : Int32) (v3 : Int32) (o4 : Option Value) : px_run (px_mk (kX12_tries X)) 154 ([some (.ref 67), some (.int (v1)), some (.int (v2)), some (.int (v3)), o4], [], (hp M J R c e nL xs D)) =
    cond (px_inb (v1) 9)
    (cond (px_inb (v1) 9)
    (px_bd (X 240 [.ref 67, .int ((v1 + 1)), .int (v2), .int ((v3 - ((M 100) (Int32.toNatClampNeg (v1)))))] (hp (px_uR M 108 (upd (M 108) (Int32.toNatClampNeg (v1)) ((-1)))) J R c e nL xs D))
    (fun v G1 => px_p (kX12_tries X) 154 17 ([some (.ref 67), some (.int (v1)), some (.int (v2)), some (.int (v3)), none], px_psh v [], G1))) none) none := (px_run_eq _ _ _).trans rfl
set_option maxRecDepth 40000 in
theorem eX12_tries_148 (X : px_X) (M : Nat → Nat → Int32) (J : Nat → Nat → Int64) (R : Nat → Nat → Option Nat) (c e : Nat) (nL : Nat) (xs : Nat → Int32) (D : px_H) (v1 : Int32) (v2 : Int32) (v3 : Int32) (v4 : Int32) : px_run (px_mk (kX12_tries X)) 148 ([some (.ref 67), some (.int (v1)), some (.int (v2)), some (.int (v3)), some (.int (v4))], [], (hp M J R c e nL xs D)) =
    px_run (px_mk (kX12_tries X)) 60 ([some (.ref 67), some (.int (v1)), some (.int (v2)), some (.int (v3)), some (.int ((v4 + 1)))], [], (hp M J R c e nL xs D)) := (px_run_eq _ _ _).trans rfl
set_option maxRecDepth 40000 in
theorem eX12_tries_60_46 (X : px_X) (M : Nat → Nat → Int32) (J : Nat → Nat → Int64) (R : Nat → Nat → Option Nat) (c e : Nat) (nL : Nat) (xs : Nat → Int32) (D : px_H) (v1 : Int32) (v2 : Int32) (v3 : Int32) (v4 : Int32) : px_p (kX12_tries X) 60 46 ([some (.ref 67), some (.int (v1)), some (.int (v2)), some (.int (v3)), some (.int (v4))], [], (hp M J R c e nL xs D)) =
    cond (px_inb (v4) 4)
    (cond (px_inb (v1) 9)
    (cond (px_inb (v4) 4)
    (px_run (px_mk (kX12_tries X)) 148 ([some (.ref 67), some (.int (v1)), some (.int (v2)), some (.int (v3)), some (.int (v4))], [], (hp (px_uR M 110 (upd (M 110) (Int32.toNatClampNeg (v4)) ((((M 110) (Int32.toNatClampNeg (v4))) + ((M 99) (Int32.toNatClampNeg (v1))))))) J R c e nL xs D))) none) none) none := rfl
set_option maxRecDepth 40000 in
theorem eX12_tries_154_17 (X : px_X) (M : Nat → Nat → Int32) (J : Nat → Nat → Int64) (R : Nat → Nat → Option Nat) (c e : Nat) (nL : Nat) (xs : Nat → Int32) (D : px_H) (v1 : Int32) (v2 : Int32) (v3 : Int32) : px_p (kX12_tries X) 154 17 ([some (.ref 67), some (.int (v1)), some (.int (v2)), some (.int (v3)), none], [], (hp M J R c e nL xs D)) =
    some (none, (hp M J R c e nL xs D)) := rfl
set_option maxRecDepth 40000 in
theorem eX12_plans_0 (X : px_X) (M : Nat → Nat → Int32) (J : Nat → Nat → Int64) (R : Nat → Nat → Option Nat) (c e : Nat) (nL : Nat) (xs : Nat → Int32) (D : px_H)  : px_run (px_mk (kX12_plans X)) 0 ([some (.ref 67), none, none], [], (hp M J R c e nL xs D)) =
    cond (decide (M 67 47 = 0))
    (px_run (px_mk (kX12_plans X)) 8 ([some (.ref 67), none, none], [], (hp M J R c e nL xs D)))
    (some (none, (hp M J R c e nL xs D))) := (px_run_eq _ _ _).trans rfl
set_option maxRecDepth 40000 in
theorem eX12_plans_8 (X : px_X) (M : Nat → Nat → Int32) (J : Nat → Nat → Int64) (R : Nat → Nat → Option Nat) (c e : Nat) (nL : Nat) (xs : Nat → Int32) (D : px_H) (o1 : Option Value) (o2 : Option Value) : px_run (px_mk (kX12_plans X)) 8 ([some (.ref 67), o1, o2], [], (hp M J R c e nL xs D)) =
    px_run (px_mk (kX12_plans X)) 22 ([some (.ref 67), some (.int (0)), some (.int (0))], [], (hp (px_uR M 67 (upd (upd (M 67) 47 (1)) 65 ((-1)))) J R c e nL xs D)) := (px_run_eq _ _ _).trans rfl
set_option maxRecDepth 40000 in
theorem eX12_plans_22 (X : px_X) (M : Nat → Nat → Int32) (J : Nat → Nat → Int64) (R : Nat → Nat → Option Nat) (c e : Nat) (nL : Nat) (xs : Nat → Int32) (D : px_H) (v1 : Int32) (v2 : Int32) : px_run (px_mk (kX12_plans X)) 22 ([some (.ref 67), some (.int (v1)), some (.int (v2))], [], (hp M J R c e nL xs D)) =
    cond (decide (M 67 42 ≤ v2))
    (px_run (px_mk (kX12_plans X)) 45 ([some (.ref 67), some (.int (v1)), some (.int (v2))], [], (hp M J R c e nL xs D)))
    (cond (px_inb (v2) 9)
    (px_run (px_mk (kX12_plans X)) 22 ([some (.ref 67), some (.int ((v1 + ((M 100) (Int32.toNatClampNeg (v2)))))), some (.int ((v2 + 1)))], [], (hp M J R c e nL xs D))) none) := (px_run_eq _ _ _).trans rfl
set_option maxRecDepth 40000 in
theorem eX12_plans_45 (X : px_X) (M : Nat → Nat → Int32) (J : Nat → Nat → Int64) (R : Nat → Nat → Option Nat) (c e : Nat) (nL : Nat) (xs : Nat → Int32) (D : px_H) (v1 : Int32) (o2 : Option Value) : px_run (px_mk (kX12_plans X)) 45 ([some (.ref 67), some (.int (v1)), o2], [], (hp M J R c e nL xs D)) =
    px_run (px_mk (kX12_plans X)) 47 ([some (.ref 67), some (.int (v1)), some (.int (0))], [], (hp M J R c e nL xs D)) := (px_run_eq _ _ _).trans rfl
set_option maxRecDepth 40000 in
theorem eX12_plans_47 (X : px_X) (M : Nat → Nat → Int32) (J : Nat → Nat → Int64) (R : Nat → Nat → Option Nat) (c e : Nat) (nL : Nat) (xs : Nat → Int32) (D : px_H) (v1 : Int32) (v2 : Int32) : px_run (px_mk (kX12_plans X)) 47 ([some (.ref 67), some (.int (v1)), some (.int (v2))], [], (hp M J R c e nL xs D)) =
    cond (decide (M 67 45 ≤ v2))
    (px_run (px_mk (kX12_plans X)) 73 ([some (.ref 67), some (.int (v1)), some (.int (v2))], [], (hp M J R c e nL xs D)))
    (cond (px_inb (v2) 4)
    (cond (px_inb (v2) 4)
    (px_run (px_mk (kX12_plans X)) 47 ([some (.ref 67), some (.int (v1)), some (.int ((v2 + 1)))], [], (hp (px_uR M 110 (upd (M 110) (Int32.toNatClampNeg (v2)) (((M 101) (Int32.toNatClampNeg (v2)))))) J R c e nL xs D))) none) none) := (px_run_eq _ _ _).trans rfl
set_option maxRecDepth 40000 in
theorem eX12_plans_73 (X : px_X) (M : Nat → Nat → Int32) (J : Nat → Nat → Int64) (R : Nat → Nat → Option Nat) (c e : Nat) (nL : Nat) (xs : Nat → Int32) (D : px_H) (v1 : Int32) (o2 : Option Value) : px_run (px_mk (kX12_plans X)) 73 ([some (.ref 67), some (.int (v1)), o2], [], (hp M J R c e nL xs D)) =
    px_bd (X 240 [.ref 67, .int (0), .int (0), .int (v1)] (hp M J R c e nL xs D))
    (fun v G1 => px_p (kX12_plans X) 73 5 ([some (.ref 67), some (.int (v1)), none], px_psh v [], G1)) := (px_run_eq _ _ _).trans rfl
set_option maxRecDepth 40000 in
theorem eX12_plans_73_5 (X : px_X) (M : Nat → Nat → Int32) (J : Nat → Nat → Int64) (R : Nat → Nat → Option Nat) (c e : Nat) (nL : Nat) (xs : Nat → Int32) (D : px_H) (v1 : Int32) : px_p (kX12_plans X) 73 5 ([some (.ref 67), some (.int (v1)), none], [], (hp M J R c e nL xs D)) =
    some (none, (hp M J R c e nL xs D)) := rfl
set_option maxRecDepth 40000 in
theorem eX12_plan_0 (X : px_X) (M : Nat → Nat → Int32) (J : Nat → Nat → Int64) (R : Nat → Nat → Option Nat) (c e : Nat) (nL : Nat) (xs : Nat → Int32) (D : px_H)  : px_run (px_mk (kX12_plan X)) 0 ([some (.ref 67)], [], (hp M J R c e nL xs D)) =
    px_bd (X 241 [.ref 67] (hp M J R c e nL xs D))
    (fun v G1 => px_p (kX12_plan X) 0 2 ([some (.ref 67)], px_psh v [], G1)) := (px_run_eq _ _ _).trans rfl
set_option maxRecDepth 40000 in
theorem eX12_plan_0_2 (X : px_X) (M : Nat → Nat → Int32) (J : Nat → Nat → Int64) (R : Nat → Nat → Option Nat) (c e : Nat) (nL : Nat) (xs : Nat → Int32) (D : px_H)  : px_p (kX12_plan X) 0 2 ([some (.ref 67)], [], (hp M J R c e nL xs D)) =
    some (some (.int (M 67 65)), (hp M J R c e nL xs D)) := rfl
set_option maxRecDepth 40000 in
theorem eX12_planned_0 (X : px_X) (M : Nat → Nat → Int32) (J : Nat → Nat → Int64) (R : Nat → Nat → Option Nat) (c e : Nat) (nL : Nat) (xs : Nat → Int32) (D : px_H) (v1 : Int32) : px_run (px_mk (kX12_planned X)) 0 ([some (.ref 67), some (.int (v1))], [], (hp M J R c e nL xs D)) =
    px_bd (X 165 [.int (v1), .int (0), .int ((M 67 42 - 1))] (hp M J R c e nL xs D))
    (fun v G1 => px_p (kX12_planned X) 0 7 ([some (.ref 67), some (.int (v1))], px_psh v [], G1)) := (px_run_eq _ _ _).trans rfl
set_option maxRecDepth 40000 in
theorem eX12_planned_0_7 (X : px_X) (M : Nat → Nat → Int32) (J : Nat → Nat → Int64) (R : Nat → Nat → Option Nat) (c e : Nat) (nL : Nat) (xs : Nat → Int32) (D : px_H) (v1 : Int32) (w0 : Int32) : px_p (kX12_planned X) 0 7 ([some (.ref 67), some (.int (v1))], [.int (w0)], (hp M J R c e nL xs D)) =
    cond (decide (¬ w0 = 0))
    (px_run (px_mk (kX12_planned X)) 17 ([some (.ref 67), some (.int (v1))], [], (hp M J R c e nL xs D)))
    (some (some (.int ((-2))), (hp M J R c e nL xs D))) := rfl
set_option maxRecDepth 40000 in
theorem eX12_planned_17 (X : px_X) (M : Nat → Nat → Int32) (J : Nat → Nat → Int64) (R : Nat → Nat → Option Nat) (c e : Nat) (nL : Nat) (xs : Nat → Int32) (D : px_H) (v1 : Int32) : px_run (px_mk (kX12_planned X)) 17 ([some (.ref 67), some (.int (v1))], [], (hp M J R c e nL xs D)) =
    px_bd (X 241 [.ref 67] (hp M J R c e nL xs D))
    (fun v G1 => px_p (kX12_planned X) 17 2 ([some (.ref 67), some (.int (v1))], px_psh v [], G1)) := (px_run_eq _ _ _).trans rfl
set_option maxRecDepth 40000 in
theorem eX12_planned_17_2 (X : px_X) (M : Nat → Nat → Int32) (J : Nat → Nat → Int64) (R : Nat → Nat → Option Nat) (c e : Nat) (nL : Nat) (xs : Nat → Int32) (D : px_H) (v1 : Int32) : px_p (kX12_planned X) 17 2 ([some (.ref 67), some (.int (v1))], [], (hp M J R c e nL xs D)) =
    cond (px_inb (v1) 9)
    (some (some (.int (((M 109) (Int32.toNatClampNeg (v1))))), (hp M J R c e nL xs D))) none := rfl
set_option maxRecDepth 40000 in
theorem eX12_hatches_0 (X : px_X) (M : Nat → Nat → Int32) (J : Nat → Nat → Int64) (R : Nat → Nat → Option Nat) (c e : Nat) (nL : Nat) (xs : Nat → Int32) (D : px_H) (v1 : Int32) : px_run (px_mk (kX12_hatches X)) 0 ([some (.ref 67), some (.int (v1)), none], [], (hp M J R c e nL xs D)) =
    px_bd (X 165 [.int (v1), .int (0), .int (30)] (hp M J R c e nL xs D))
    (fun v G1 => px_p (kX12_hatches X) 0 4 ([some (.ref 67), some (.int (v1)), none], px_psh v [], G1)) := (px_run_eq _ _ _).trans rfl
set_option maxRecDepth 40000 in
theorem eX12_hatches_0_4 (X : px_X) (M : Nat → Nat → Int32) (J : Nat → Nat → Int64) (R : Nat → Nat → Option Nat) (c e : Nat) (nL : Nat) (xs : Nat → Int32) (D : px_H) (v1 : Int32) (w0 : Int32) : px_p (kX12_hatches X) 0 4 ([some (.ref 67), some (.int (v1)), none], [.int (w0)], (hp M J R c e nL xs D)) =
    cond (decide (w0 = 0))
    (px_run (px_mk (kX12_hatches X)) 16 ([some (.ref 67), some (.int (v1)), none], [], (hp M J R c e nL xs D)))
    (cond (decide ((v1 - v1 / 2 * 2) = 0))
    (px_run (px_mk (kX12_hatches X)) 19 ([some (.ref 67), some (.int (v1)), none], [], (hp M J R c e nL xs D)))
    (px_run (px_mk (kX12_hatches X)) 16 ([some (.ref 67), some (.int (v1)), none], [], (hp M J R c e nL xs D)))) := rfl
set_option maxRecDepth 40000 in
theorem eX12_hatches_16 (X : px_X) (M : Nat → Nat → Int32) (J : Nat → Nat → Int64) (R : Nat → Nat → Option Nat) (c e : Nat) (nL : Nat) (xs : Nat → Int32) (D : px_H) (o0 : Option Value) (o1 : Option Value) (o2 : Option Value) : px_run (px_mk (kX12_hatches X)) 16 ([o0, o1, o2], [], (hp M J R c e nL xs D)) =
    some (some (.int ((-2))), (hp M J R c e nL xs D)) := (px_run_eq _ _ _).trans rfl
set_option maxRecDepth 40000 in
theorem eX12_hatches_19 (X : px_X) (M : Nat → Nat → Int32) (J : Nat → Nat → Int64) (R : Nat → Nat → Option Nat) (c e : Nat) (nL : Nat) (xs : Nat → Int32) (D : px_H) (v1 : Int32) (o2 : Option Value) : px_run (px_mk (kX12_hatches X)) 19 ([some (.ref 67), some (.int (v1)), o2], [], (hp M J R c e nL xs D)) =
    some (some (.int (M 67 48)), (hp (px_uR M 67 (upd (M 67) 48 (v1))) J R c e nL xs D)) := (px_run_eq _ _ _).trans rfl
set_option maxRecDepth 40000 in
theorem eX12_roll_0 (X : px_X) (M : Nat → Nat → Int32) (J : Nat → Nat → Int64) (R : Nat → Nat → Option Nat) (c e : Nat) (nL : Nat) (xs : Nat → Int32) (D : px_H) (v1 : Int32) : px_run (px_mk (kX12_roll X)) 0 ([some (.ref 67), some (.int (v1)), none], [], (hp M J R c e nL xs D)) =
    px_bd (X 165 [.int (v1), .int ((-9)), .int (9)] (hp M J R c e nL xs D))
    (fun v G1 => px_p (kX12_roll X) 0 4 ([some (.ref 67), some (.int (v1)), none], px_psh v [], G1)) := (px_run_eq _ _ _).trans rfl
set_option maxRecDepth 40000 in
theorem eX12_roll_0_4 (X : px_X) (M : Nat → Nat → Int32) (J : Nat → Nat → Int64) (R : Nat → Nat → Option Nat) (c e : Nat) (nL : Nat) (xs : Nat → Int32) (D : px_H) (v1 : Int32) (w0 : Int32) : px_p (kX12_roll X) 0 4 ([some (.ref 67), some (.int (v1)), none], [.int (w0)], (hp M J R c e nL xs D)) =
    cond (decide (¬ w0 = 0))
    (px_run (px_mk (kX12_roll X)) 14 ([some (.ref 67), some (.int (v1)), none], [], (hp M J R c e nL xs D)))
    (some (some (.int ((-2))), (hp M J R c e nL xs D))) := rfl
set_option maxRecDepth 40000 in
theorem eX12_roll_14 (X : px_X) (M : Nat → Nat → Int32) (J : Nat → Nat → Int64) (R : Nat → Nat → Option Nat) (c e : Nat) (nL : Nat) (xs : Nat → Int32) (D : px_H) (v1 : Int32) (o2 : Option Value) : px_run (px_mk (kX12_roll X)) 14 ([some (.ref 67), some (.int (v1)), o2], [], (hp M J R c e nL xs D)) =
    some (some (.int (M 67 49)), (hp (px_uR M 67 (upd (M 67) 49 (v1))) J R c e nL xs D)) := (px_run_eq _ _ _).trans rfl
set_option maxRecDepth 40000 in
theorem eX12_hasStood_0 (X : px_X) (M : Nat → Nat → Int32) (J : Nat → Nat → Int64) (R : Nat → Nat → Option Nat) (c e : Nat) (nL : Nat) (xs : Nat → Int32) (D : px_H) (v1 : Int32) (v2 : Int32) (v3 : Int32) : px_run (px_mk (kX12_hasStood X)) 0 ([some (.ref 67), some (.int (v1)), some (.int (v2)), some (.int (v3)), none, none], [], (hp M J R c e nL xs D)) =
    px_run (px_mk (kX12_hasStood X)) 6 ([some (.ref 67), some (.int (v1)), some (.int (v2)), some (.int (v3)), some (.int (v2)), some (.int (0))], [], (hp M J R c e nL xs D)) := (px_run_eq _ _ _).trans rfl
set_option maxRecDepth 40000 in
theorem eX12_hasStood_6 (X : px_X) (M : Nat → Nat → Int32) (J : Nat → Nat → Int64) (R : Nat → Nat → Option Nat) (c e : Nat) (nL : Nat) (xs : Nat → Int32) (D : px_H) (v1 : Int32) (o2 : Option Value) (v3 : Int32) (v4 : Int32) (v5 : Int32) : px_run (px_mk (kX12_hasStood X)) 6 ([some (.ref 67), some (.int (v1)), o2, some (.int (v3)), some (.int (v4)), some (.int (v5))], [], (hp M J R c e nL xs D)) =
    cond (decide (v4 ≤ 0))
    (px_run (px_mk (kX12_hasStood X)) 33 ([some (.ref 67), some (.int (v1)), none, some (.int (v3)), some (.int (v4)), some (.int (v5))], [], (hp M J R c e nL xs D)))
    (cond (decide (¬ ((M 67 48 >>> (v4 &&& 31)) &&& 1) = 1))
    (px_run (px_mk (kX12_hasStood X)) 33 ([some (.ref 67), some (.int (v1)), none, some (.int (v3)), some (.int (v4)), some (.int (v5))], [], (hp M J R c e nL xs D)))
    (px_run (px_mk (kX12_hasStood X)) 6 ([some (.ref 67), some (.int (v1)), none, some (.int (v3)), some (.int ((v4 + (-1)))), some (.int ((v5 + 1)))], [], (hp M J R c e nL xs D)))) := (px_run_eq _ _ _).trans rfl
set_option maxRecDepth 40000 in
theorem eX12_hasStood_33 (X : px_X) (M : Nat → Nat → Int32) (J : Nat → Nat → Int64) (R : Nat → Nat → Option Nat) (c e : Nat) (nL : Nat) (xs : Nat → Int32) (D : px_H) (v1 : Int32) (o2 : Option Value) (v3 : Int32) (o4 : Option Value) (v5 : Int32) : px_run (px_mk (kX12_hasStood X)) 33 ([some (.ref 67), some (.int (v1)), o2, some (.int (v3)), o4, some (.int (v5))], [], (hp M J R c e nL xs D)) =
    cond (px_inb (v1) 20)
    (cond (decide (¬ (v3 + (v5 * M 67 49)) = (((M 78) (Int32.toNatClampNeg (v1))) - ((M 78) (Int32.toNatClampNeg (v1))) / 10 * 10)))
    (px_run (px_mk (kX12_hasStood X)) 79 ([some (.ref 67), some (.int (v1)), none, some (.int (v3)), none, some (.int (v5))], [], (hp M J R c e nL xs D)))
    (cond (decide (v5 ≤ 3))
    (px_run (px_mk (kX12_hasStood X)) 64 ([some (.ref 67), some (.int (v1)), none, some (.int (v3)), none, some (.int (v5))], [], (hp M J R c e nL xs D)))
    (px_run (px_mk (kX12_hasStood X)) 66 ([some (.ref 67), some (.int (v1)), none, some (.int (v3)), none, some (.int (v5))], [.int (3)], (hp M J R c e nL xs D))))) none := (px_run_eq _ _ _).trans rfl
set_option maxRecDepth 40000 in
theorem eX12_hasStood_79 (X : px_X) (M : Nat → Nat → Int32) (J : Nat → Nat → Int64) (R : Nat → Nat → Option Nat) (c e : Nat) (nL : Nat) (xs : Nat → Int32) (D : px_H) (o0 : Option Value) (o1 : Option Value) (o2 : Option Value) (o3 : Option Value) (o4 : Option Value) (o5 : Option Value) : px_run (px_mk (kX12_hasStood X)) 79 ([o0, o1, o2, o3, o4, o5], [], (hp M J R c e nL xs D)) =
    px_run (px_mk (kX12_hasStood X)) 80 ([none, none, none, none, none, none], [.int (0)], (hp M J R c e nL xs D)) := (px_run_eq _ _ _).trans rfl
set_option maxRecDepth 40000 in
theorem eX12_hasStood_64 (X : px_X) (M : Nat → Nat → Int32) (J : Nat → Nat → Int64) (R : Nat → Nat → Option Nat) (c e : Nat) (nL : Nat) (xs : Nat → Int32) (D : px_H) (v1 : Int32) (o2 : Option Value) (o3 : Option Value) (o4 : Option Value) (v5 : Int32) : px_run (px_mk (kX12_hasStood X)) 64 ([some (.ref 67), some (.int (v1)), o2, o3, o4, some (.int (v5))], [], (hp M J R c e nL xs D)) =
    px_run (px_mk (kX12_hasStood X)) 66 ([some (.ref 67), some (.int (v1)), none, none, none, some (.int (v5))], [.int (v5)], (hp M J R c e nL xs D)) := (px_run_eq _ _ _).trans rfl
set_option maxRecDepth 40000 in
theorem eX12_hasStood_66 (X : px_X) (M : Nat → Nat → Int32) (J : Nat → Nat → Int64) (R : Nat → Nat → Option Nat) (c e : Nat) (nL : Nat) (xs : Nat → Int32) (D : px_H) (v1 : Int32) (o2 : Option Value) (o3 : Option Value) (o4 : Option Value) (o5 : Option Value) (w0 : Int32) : px_run (px_mk (kX12_hasStood X)) 66 ([some (.ref 67), some (.int (v1)), o2, o3, o4, o5], [.int (w0)], (hp M J R c e nL xs D)) =
    cond (px_inb (v1) 20)
    (cond (decide (¬ w0 = ((M 79) (Int32.toNatClampNeg (v1)))))
    (px_run (px_mk (kX12_hasStood X)) 79 ([some (.ref 67), some (.int (v1)), none, none, none, none], [], (hp M J R c e nL xs D)))
    (px_run (px_mk (kX12_hasStood X)) 80 ([some (.ref 67), some (.int (v1)), none, none, none, none], [.int (1)], (hp M J R c e nL xs D)))) none := (px_run_eq _ _ _).trans rfl
set_option maxRecDepth 40000 in
theorem eX12_hasStood_80 (X : px_X) (M : Nat → Nat → Int32) (J : Nat → Nat → Int64) (R : Nat → Nat → Option Nat) (c e : Nat) (nL : Nat) (xs : Nat → Int32) (D : px_H) (o0 : Option Value) (o1 : Option Value) (o2 : Option Value) (o3 : Option Value) (o4 : Option Value) (o5 : Option Value) (w0 : Int32) : px_run (px_mk (kX12_hasStood X)) 80 ([o0, o1, o2, o3, o4, o5], [.int (w0)], (hp M J R c e nL xs D)) =
    cond (decide (w0 = 0) || decide (w0 = 1)) (some (some (.int (w0)), (hp M J R c e nL xs D))) none := (px_run_eq _ _ _).trans rfl
set_option maxRecDepth 40000 in
theorem eX12_ways_0 (X : px_X) (M : Nat → Nat → Int32) (J : Nat → Nat → Int64) (R : Nat → Nat → Option Nat) (c e : Nat) (nL : Nat) (xs : Nat → Int32) (D : px_H) (v1 : Int32) (v2 : Int32) (v3 : Int32) : px_run (px_mk (kX12_ways X)) 0 ([some (.ref 67), some (.int (v1)), some (.int (v2)), some (.int (v3)), none, none, none], [], (hp M J R c e nL xs D)) =
    px_run (px_mk (kX12_ways X)) 6 ([some (.ref 67), some (.int (v1)), some (.int (v2)), some (.int (v3)), some (.int (0)), some (.int (0)), none], [], (hp M J R c e nL xs D)) := (px_run_eq _ _ _).trans rfl
set_option maxRecDepth 40000 in
theorem eX12_ways_6 (X : px_X) (M : Nat → Nat → Int32) (J : Nat → Nat → Int64) (R : Nat → Nat → Option Nat) (c e : Nat) (nL : Nat) (xs : Nat → Int32) (D : px_H) (v1 : Int32) (v2 : Int32) (v3 : Int32) (v4 : Int32) (v5 : Int32) (o6 : Option Value) : px_run (px_mk (kX12_ways X)) 6 ([some (.ref 67), some (.int (v1)), some (.int (v2)), some (.int (v3)), some (.int (v4)), some (.int (v5)), o6], [], (hp M J R c e nL xs D)) =
    cond (decide (5 ≤ v5))
    (px_run (px_mk (kX12_ways X)) 68 ([some (.ref 67), some (.int (v1)), some (.int (v2)), some (.int (v3)), some (.int (v4)), some (.int (v5)), none], [], (hp M J R c e nL xs D)))
    (px_run (px_mk (kX12_ways X)) 15 ([some (.ref 67), some (.int (v1)), some (.int (v2)), some (.int (v3)), some (.int (v4)), some (.int (v5)), some (.int (0))], [], (hp M J R c e nL xs D))) := (px_run_eq _ _ _).trans rfl
set_option maxRecDepth 40000 in
theorem eX12_ways_68 (X : px_X) (M : Nat → Nat → Int32) (J : Nat → Nat → Int64) (R : Nat → Nat → Option Nat) (c e : Nat) (nL : Nat) (xs : Nat → Int32) (D : px_H) (o0 : Option Value) (o1 : Option Value) (o2 : Option Value) (v3 : Int32) (v4 : Int32) (o5 : Option Value) (o6 : Option Value) : px_run (px_mk (kX12_ways X)) 68 ([o0, o1, o2, some (.int (v3)), some (.int (v4)), o5, o6], [], (hp M J R c e nL xs D)) =
    cond (decide (v3 = 0))
    (px_run (px_mk (kX12_ways X)) 76 ([none, none, none, some (.int (v3)), some (.int (v4)), none, none], [], (hp M J R c e nL xs D)))
    (px_run (px_mk (kX12_ways X)) 78 ([none, none, none, some (.int (v3)), some (.int (v4)), none, none], [.int ((-1))], (hp M J R c e nL xs D))) := (px_run_eq _ _ _).trans rfl
set_option maxRecDepth 40000 in
theorem eX12_ways_15 (X : px_X) (M : Nat → Nat → Int32) (J : Nat → Nat → Int64) (R : Nat → Nat → Option Nat) (c e : Nat) (nL : Nat) (xs : Nat → Int32) (D : px_H) (v1 : Int32) (v2 : Int32) (v3 : Int32) (v4 : Int32) (v5 : Int32) (v6 : Int32) : px_run (px_mk (kX12_ways X)) 15 ([some (.ref 67), some (.int (v1)), some (.int (v2)), some (.int (v3)), some (.int (v4)), some (.int (v5)), some (.int (v6))], [], (hp M J R c e nL xs D)) =
    cond (decide (10 ≤ v6))
    (px_run (px_mk (kX12_ways X)) 62 ([some (.ref 67), some (.int (v1)), some (.int (v2)), some (.int (v3)), some (.int (v4)), some (.int (v5)), some (.int (v6))], [], (hp M J R c e nL xs D)))
    (px_bd (X 246 [.ref 67, .int (v1), .int (v5), .int (v6)] (hp M J R c e nL xs D))
    (fun v G1 => px_p (kX12_ways X) 15 8 ([some (.ref 67), some (.int (v1)), some (.int (v2)), some (.int (v3)), some (.int (v4)), some (.int (v5)), some (.int (v6))], px_psh v [], G1))) := (px_run_eq _ _ _).trans rfl
set_option maxRecDepth 40000 in
theorem eX12_ways_76 (X : px_X) (M : Nat → Nat → Int32) (J : Nat → Nat → Int64) (R : Nat → Nat → Option Nat) (c e : Nat) (nL : Nat) (xs : Nat → Int32) (D : px_H) (o0 : Option Value) (o1 : Option Value) (o2 : Option Value) (o3 : Option Value) (v4 : Int32) (o5 : Option Value) (o6 : Option Value) : px_run (px_mk (kX12_ways X)) 76 ([o0, o1, o2, o3, some (.int (v4)), o5, o6], [], (hp M J R c e nL xs D)) =
    px_run (px_mk (kX12_ways X)) 78 ([none, none, none, none, some (.int (v4)), none, none], [.int (v4)], (hp M J R c e nL xs D)) := (px_run_eq _ _ _).trans rfl
set_option maxRecDepth 40000 in
theorem eX12_ways_78 (X : px_X) (M : Nat → Nat → Int32) (J : Nat → Nat → Int64) (R : Nat → Nat → Option Nat) (c e : Nat) (nL : Nat) (xs : Nat → Int32) (D : px_H) (o0 : Option Value) (o1 : Option Value) (o2 : Option Value) (o3 : Option Value) (o4 : Option Value) (o5 : Option Value) (o6 : Option Value) (w0 : Int32) : px_run (px_mk (kX12_ways X)) 78 ([o0, o1, o2, o3, o4, o5, o6], [.int (w0)], (hp M J R c e nL xs D)) =
    some (some (.int (w0)), (hp M J R c e nL xs D)) := (px_run_eq _ _ _).trans rfl
set_option maxRecDepth 40000 in
theorem eX12_ways_62 (X : px_X) (M : Nat → Nat → Int32) (J : Nat → Nat → Int64) (R : Nat → Nat → Option Nat) (c e : Nat) (nL : Nat) (xs : Nat → Int32) (D : px_H) (v1 : Int32) (v2 : Int32) (v3 : Int32) (v4 : Int32) (v5 : Int32) (o6 : Option Value) : px_run (px_mk (kX12_ways X)) 62 ([some (.ref 67), some (.int (v1)), some (.int (v2)), some (.int (v3)), some (.int (v4)), some (.int (v5)), o6], [], (hp M J R c e nL xs D)) =
    px_run (px_mk (kX12_ways X)) 6 ([some (.ref 67), some (.int (v1)), some (.int (v2)), some (.int (v3)), some (.int (v4)), some (.int ((v5 + 1))), none], [], (hp M J R c e nL xs D)) := (px_run_eq _ _ _).trans rfl
set_option maxRecDepth 40000 in
theorem eX12_ways_15_8 (X : px_X) (M : Nat → Nat → Int32) (J : Nat → Nat → Int64) (R : Nat → Nat → Option Nat) (c e : Nat) (nL : Nat) (xs : Nat → Int32) (D : px_H) (v1 : Int32) (v2 : Int32) (v3 : Int32) (v4 : Int32) (v5 : Int32) (v6 : Int32) (w0 : Int32) : px_p (kX12_ways X) 15 8 ([some (.ref 67), some (.int (v1)), some (.int (v2)), some (.int (v3)), some (.int (v4)), some (.int (v5)), some (.int (v6))], [.int (w0)], (hp M J R c e nL xs D)) =
    cond (decide (w0 = 0))
    (px_run (px_mk (kX12_ways X)) 56 ([some (.ref 67), some (.int (v1)), some (.int (v2)), some (.int (v3)), some (.int (v4)), some (.int (v5)), some (.int (v6))], [], (hp M J R c e nL xs D)))
    (cond (decide (v3 = 0))
    (px_run (px_mk (kX12_ways X)) 53 ([some (.ref 67), some (.int (v1)), some (.int (v2)), some (.int (v3)), some (.int (v4)), some (.int (v5)), some (.int (v6))], [], (hp M J R c e nL xs D)))
    (cond (decide (¬ v4 = v2))
    (px_run (px_mk (kX12_ways X)) 53 ([some (.ref 67), some (.int (v1)), some (.int (v2)), some (.int (v3)), some (.int (v4)), some (.int (v5)), some (.int (v6))], [], (hp M J R c e nL xs D)))
    (some (some (.int (((10 * v5) + v6))), (hp M J R c e nL xs D))))) := rfl
set_option maxRecDepth 40000 in
theorem eX12_ways_56 (X : px_X) (M : Nat → Nat → Int32) (J : Nat → Nat → Int64) (R : Nat → Nat → Option Nat) (c e : Nat) (nL : Nat) (xs : Nat → Int32) (D : px_H) (v1 : Int32) (v2 : Int32) (v3 : Int32) (v4 : Int32) (v5 : Int32) (v6 : Int32) : px_run (px_mk (kX12_ways X)) 56 ([some (.ref 67), some (.int (v1)), some (.int (v2)), some (.int (v3)), some (.int (v4)), some (.int (v5)), some (.int (v6))], [], (hp M J R c e nL xs D)) =
    px_run (px_mk (kX12_ways X)) 15 ([some (.ref 67), some (.int (v1)), some (.int (v2)), some (.int (v3)), some (.int (v4)), some (.int (v5)), some (.int ((v6 + 1)))], [], (hp M J R c e nL xs D)) := (px_run_eq _ _ _).trans rfl
set_option maxRecDepth 40000 in
theorem eX12_ways_53 (X : px_X) (M : Nat → Nat → Int32) (J : Nat → Nat → Int64) (R : Nat → Nat → Option Nat) (c e : Nat) (nL : Nat) (xs : Nat → Int32) (D : px_H) (v1 : Int32) (v2 : Int32) (v3 : Int32) (v4 : Int32) (v5 : Int32) (v6 : Int32) : px_run (px_mk (kX12_ways X)) 53 ([some (.ref 67), some (.int (v1)), some (.int (v2)), some (.int (v3)), some (.int (v4)), some (.int (v5)), some (.int (v6))], [], (hp M J R c e nL xs D)) =
    px_run (px_mk (kX12_ways X)) 56 ([some (.ref 67), some (.int (v1)), some (.int (v2)), some (.int (v3)), some (.int ((v4 + 1))), some (.int (v5)), some (.int (v6))], [], (hp M J R c e nL xs D)) := (px_run_eq _ _ _).trans rfl
set_option maxRecDepth 40000 in
theorem eX12_stood_0 (X : px_X) (M : Nat → Nat → Int32) (J : Nat → Nat → Int64) (R : Nat → Nat → Option Nat) (c e : Nat) (nL : Nat) (xs : Nat → Int32) (D : px_H) (v1 : Int32) : px_run (px_mk (kX12_stood X)) 0 ([some (.ref 67), some (.int (v1))], [], (hp M J R c e nL xs D)) =
    px_bd (X 167 [.ref 67, .int (v1)] (hp M J R c e nL xs D))
    (fun v G1 => px_p (kX12_stood X) 0 3 ([some (.ref 67), some (.int (v1))], px_psh v [], G1)) := (px_run_eq _ _ _).trans rfl
set_option maxRecDepth 40000 in
theorem eX12_stood_0_3 (X : px_X) (M : Nat → Nat → Int32) (J : Nat → Nat → Int64) (R : Nat → Nat → Option Nat) (c e : Nat) (nL : Nat) (xs : Nat → Int32) (D : px_H) (v1 : Int32) (w0 : Int32) : px_p (kX12_stood X) 0 3 ([some (.ref 67), some (.int (v1))], [.int (w0)], (hp M J R c e nL xs D)) =
    cond (decide (w0 = 0))
    (px_run (px_mk (kX12_stood X)) 18 ([some (.ref 67), some (.int (v1))], [], (hp M J R c e nL xs D)))
    (px_bd (X 247 [.ref 67, .int (v1), .int (0), .int (0)] (hp M J R c e nL xs D))
    (fun v G1 => px_p (kX12_stood X) 0 9 ([some (.ref 67), some (.int (v1))], px_psh v [], G1))) := rfl
set_option maxRecDepth 40000 in
theorem eX12_stood_18 (X : px_X) (M : Nat → Nat → Int32) (J : Nat → Nat → Int64) (R : Nat → Nat → Option Nat) (c e : Nat) (nL : Nat) (xs : Nat → Int32) (D : px_H) (o0 : Option Value) (o1 : Option Value) : px_run (px_mk (kX12_stood X)) 18 ([o0, o1], [], (hp M J R c e nL xs D)) =
    px_run (px_mk (kX12_stood X)) 20 ([none, none], [.int ((-2))], (hp M J R c e nL xs D)) := (px_run_eq _ _ _).trans rfl
set_option maxRecDepth 40000 in
theorem eX12_stood_0_9 (X : px_X) (M : Nat → Nat → Int32) (J : Nat → Nat → Int64) (R : Nat → Nat → Option Nat) (c e : Nat) (nL : Nat) (xs : Nat → Int32) (D : px_H) (v1 : Int32) (w0 : Int32) : px_p (kX12_stood X) 0 9 ([some (.ref 67), some (.int (v1))], [.int (w0)], (hp M J R c e nL xs D)) =
    px_run (px_mk (kX12_stood X)) 20 ([some (.ref 67), some (.int (v1))], [.int (w0)], (hp M J R c e nL xs D)) := rfl
set_option maxRecDepth 40000 in
theorem eX12_stood_20 (X : px_X) (M : Nat → Nat → Int32) (J : Nat → Nat → Int64) (R : Nat → Nat → Option Nat) (c e : Nat) (nL : Nat) (xs : Nat → Int32) (D : px_H) (o0 : Option Value) (o1 : Option Value) (w0 : Int32) : px_run (px_mk (kX12_stood X)) 20 ([o0, o1], [.int (w0)], (hp M J R c e nL xs D)) =
    some (some (.int (w0)), (hp M J R c e nL xs D)) := (px_run_eq _ _ _).trans rfl
set_option maxRecDepth 40000 in
theorem eX12_stoodAt_0 (X : px_X) (M : Nat → Nat → Int32) (J : Nat → Nat → Int64) (R : Nat → Nat → Option Nat) (c e : Nat) (nL : Nat) (xs : Nat → Int32) (D : px_H) (v1 : Int32) (v2 : Int32) : px_run (px_mk (kX12_stoodAt X)) 0 ([some (.ref 67), some (.int (v1)), some (.int (v2))], [], (hp M J R c e nL xs D)) =
    px_bd (X 167 [.ref 67, .int (v1)] (hp M J R c e nL xs D))
    (fun v G1 => px_p (kX12_stoodAt X) 0 3 ([some (.ref 67), some (.int (v1)), some (.int (v2))], px_psh v [], G1)) := (px_run_eq _ _ _).trans rfl
set_option maxRecDepth 40000 in
theorem eX12_stoodAt_0_3 (X : px_X) (M : Nat → Nat → Int32) (J : Nat → Nat → Int64) (R : Nat → Nat → Option Nat) (c e : Nat) (nL : Nat) (xs : Nat → Int32) (D : px_H) (v1 : Int32) (v2 : Int32) (w0 : Int32) : px_p (kX12_stoodAt X) 0 3 ([some (.ref 67), some (.int (v1)), some (.int (v2))], [.int (w0)], (hp M J R c e nL xs D)) =
    cond (decide (w0 = 0))
    (px_run (px_mk (kX12_stoodAt X)) 18 ([some (.ref 67), some (.int (v1)), some (.int (v2))], [], (hp M J R c e nL xs D)))
    (px_bd (X 247 [.ref 67, .int (v1), .int (v2), .int (1)] (hp M J R c e nL xs D))
    (fun v G1 => px_p (kX12_stoodAt X) 0 9 ([some (.ref 67), some (.int (v1)), some (.int (v2))], px_psh v [], G1))) := rfl
set_option maxRecDepth 40000 in
theorem eX12_stoodAt_18 (X : px_X) (M : Nat → Nat → Int32) (J : Nat → Nat → Int64) (R : Nat → Nat → Option Nat) (c e : Nat) (nL : Nat) (xs : Nat → Int32) (D : px_H) (o0 : Option Value) (o1 : Option Value) (o2 : Option Value) : px_run (px_mk (kX12_stoodAt X)) 18 ([o0, o1, o2], [], (hp M J R c e nL xs D)) =
    px_run (px_mk (kX12_stoodAt X)) 20 ([none, none, none], [.int ((-2))], (hp M J R c e nL xs D)) := (px_run_eq _ _ _).trans rfl
set_option maxRecDepth 40000 in
theorem eX12_stoodAt_0_9 (X : px_X) (M : Nat → Nat → Int32) (J : Nat → Nat → Int64) (R : Nat → Nat → Option Nat) (c e : Nat) (nL : Nat) (xs : Nat → Int32) (D : px_H) (v1 : Int32) (v2 : Int32) (w0 : Int32) : px_p (kX12_stoodAt X) 0 9 ([some (.ref 67), some (.int (v1)), some (.int (v2))], [.int (w0)], (hp M J R c e nL xs D)) =
    px_run (px_mk (kX12_stoodAt X)) 20 ([some (.ref 67), some (.int (v1)), some (.int (v2))], [.int (w0)], (hp M J R c e nL xs D)) := rfl
set_option maxRecDepth 40000 in
theorem eX12_stoodAt_20 (X : px_X) (M : Nat → Nat → Int32) (J : Nat → Nat → Int64) (R : Nat → Nat → Option Nat) (c e : Nat) (nL : Nat) (xs : Nat → Int32) (D : px_H) (o0 : Option Value) (o1 : Option Value) (o2 : Option Value) (w0 : Int32) : px_run (px_mk (kX12_stoodAt X)) 20 ([o0, o1, o2], [.int (w0)], (hp M J R c e nL xs D)) =
    some (some (.int (w0)), (hp M J R c e nL xs D)) := (px_run_eq _ _ _).trans rfl
set_option maxRecDepth 40000 in
theorem eX12_count_0 (X : px_X) (M : Nat → Nat → Int32) (J : Nat → Nat → Int64) (R : Nat → Nat → Option Nat) (c e : Nat) (nL : Nat) (xs : Nat → Int32) (D : px_H) (v1 : Int32) : px_run (px_mk (kX12_count X)) 0 ([some (.ref 67), some (.int (v1)), none, none], [], (hp M J R c e nL xs D)) =
    cond (decide (v1 = 0))
    (px_run (px_mk (kX12_count X)) 68 ([some (.ref 67), some (.int (v1)), some (.int (0)), none], [], (hp M J R c e nL xs D)))
    (cond (decide (v1 = 1))
    (px_run (px_mk (kX12_count X)) 73 ([some (.ref 67), some (.int (v1)), some (.int (0)), none], [], (hp M J R c e nL xs D)))
    (cond (decide (v1 = 2))
    (px_run (px_mk (kX12_count X)) 78 ([some (.ref 67), some (.int (v1)), some (.int (0)), none], [], (hp M J R c e nL xs D)))
    (cond (decide (v1 = 3))
    (px_run (px_mk (kX12_count X)) 83 ([some (.ref 67), some (.int (v1)), some (.int (0)), none], [], (hp M J R c e nL xs D)))
    (cond (decide (v1 = 4))
    (px_run (px_mk (kX12_count X)) 88 ([some (.ref 67), some (.int (v1)), some (.int (0)), none], [], (hp M J R c e nL xs D)))
    (cond (decide (v1 = 5))
    (px_run (px_mk (kX12_count X)) 93 ([some (.ref 67), some (.int (v1)), some (.int (0)), none], [], (hp M J R c e nL xs D)))
    (cond (decide (v1 = 6))
    (px_run (px_mk (kX12_count X)) 98 ([some (.ref 67), some (.int (v1)), some (.int (0)), none], [], (hp M J R c e nL xs D)))
    (cond (decide (v1 = 7))
    (px_run (px_mk (kX12_count X)) 103 ([some (.ref 67), some (.int (v1)), some (.int (0)), none], [], (hp M J R c e nL xs D)))
    (cond (decide (v1 = 8))
    (px_run (px_mk (kX12_count X)) 108 ([some (.ref 67), some (.int (v1)), some (.int (0)), none], [], (hp M J R c e nL xs D)))
    (cond (decide (v1 = 9))
    (px_run (px_mk (kX12_count X)) 113 ([some (.ref 67), some (.int (v1)), some (.int (0)), none], [], (hp M J R c e nL xs D)))
    (cond (decide (v1 = 10))
    (px_run (px_mk (kX12_count X)) 118 ([some (.ref 67), some (.int (v1)), some (.int (0)), none], [], (hp M J R c e nL xs D)))
    (cond (decide (v1 = 11))
    (px_run (px_mk (kX12_count X)) 123 ([some (.ref 67), some (.int (v1)), some (.int (0)), none], [], (hp M J R c e nL xs D)))
    (cond (decide (v1 = 12))
    (px_run (px_mk (kX12_count X)) 159 ([some (.ref 67), some (.int (v1)), some (.int (0)), none], [], (hp M J R c e nL xs D)))
    (px_run (px_mk (kX12_count X)) 198 ([some (.ref 67), some (.int (v1)), some (.int (0)), none], [], (hp M J R c e nL xs D))))))))))))))) := (px_run_eq _ _ _).trans rfl
set_option maxRecDepth 40000 in
theorem eX12_count_198 (X : px_X) (M : Nat → Nat → Int32) (J : Nat → Nat → Int64) (R : Nat → Nat → Option Nat) (c e : Nat) (nL : Nat) (xs : Nat → Int32) (D : px_H) (o0 : Option Value) (o1 : Option Value) (o2 : Option Value) (o3 : Option Value) : px_run (px_mk (kX12_count X)) 198 ([o0, o1, o2, o3], [], (hp M J R c e nL xs D)) =
    some (some (.int ((-2))), (hp M J R c e nL xs D)) := (px_run_eq _ _ _).trans rfl
set_option maxRecDepth 40000 in
theorem eX12_count_159 (X : px_X) (M : Nat → Nat → Int32) (J : Nat → Nat → Int64) (R : Nat → Nat → Option Nat) (c e : Nat) (nL : Nat) (xs : Nat → Int32) (D : px_H) (o1 : Option Value) (v2 : Int32) (o3 : Option Value) : px_run (px_mk (kX12_count X)) 159 ([some (.ref 67), o1, some (.int (v2)), o3], [], (hp M J R c e nL xs D)) =
    px_bd (X 178 [.ref 67] (hp M J R c e nL xs D))
    (fun v G1 => px_p (kX12_count X) 159 2 ([some (.ref 67), none, some (.int (v2)), none], px_psh v [], G1)) := (px_run_eq _ _ _).trans rfl
set_option maxRecDepth 40000 in
theorem eX12_count_123 (X : px_X) (M : Nat → Nat → Int32) (J : Nat → Nat → Int64) (R : Nat → Nat → Option Nat) (c e : Nat) (nL : Nat) (xs : Nat → Int32) (D : px_H) (o1 : Option Value) (v2 : Int32) (o3 : Option Value) : px_run (px_mk (kX12_count X)) 123 ([some (.ref 67), o1, some (.int (v2)), o3], [], (hp M J R c e nL xs D)) =
    px_run (px_mk (kX12_count X)) 125 ([some (.ref 67), none, some (.int (v2)), some (.int (0))], [], (hp M J R c e nL xs D)) := (px_run_eq _ _ _).trans rfl
set_option maxRecDepth 40000 in
theorem eX12_count_118 (X : px_X) (M : Nat → Nat → Int32) (J : Nat → Nat → Int64) (R : Nat → Nat → Option Nat) (c e : Nat) (nL : Nat) (xs : Nat → Int32) (D : px_H) (o1 : Option Value) (o2 : Option Value) (o3 : Option Value) : px_run (px_mk (kX12_count X)) 118 ([some (.ref 67), o1, o2, o3], [], (hp M J R c e nL xs D)) =
    some (some (.int (M 67 45)), (hp M J R c e nL xs D)) := (px_run_eq _ _ _).trans rfl
set_option maxRecDepth 40000 in
theorem eX12_count_113 (X : px_X) (M : Nat → Nat → Int32) (J : Nat → Nat → Int64) (R : Nat → Nat → Option Nat) (c e : Nat) (nL : Nat) (xs : Nat → Int32) (D : px_H) (o1 : Option Value) (o2 : Option Value) (o3 : Option Value) : px_run (px_mk (kX12_count X)) 113 ([some (.ref 67), o1, o2, o3], [], (hp M J R c e nL xs D)) =
    some (some (.int (M 67 42)), (hp M J R c e nL xs D)) := (px_run_eq _ _ _).trans rfl
set_option maxRecDepth 40000 in
theorem eX12_count_108 (X : px_X) (M : Nat → Nat → Int32) (J : Nat → Nat → Int64) (R : Nat → Nat → Option Nat) (c e : Nat) (nL : Nat) (xs : Nat → Int32) (D : px_H) (o1 : Option Value) (o2 : Option Value) (o3 : Option Value) : px_run (px_mk (kX12_count X)) 108 ([some (.ref 67), o1, o2, o3], [], (hp M J R c e nL xs D)) =
    some (some (.int (M 67 38)), (hp M J R c e nL xs D)) := (px_run_eq _ _ _).trans rfl
set_option maxRecDepth 40000 in
theorem eX12_count_103 (X : px_X) (M : Nat → Nat → Int32) (J : Nat → Nat → Int64) (R : Nat → Nat → Option Nat) (c e : Nat) (nL : Nat) (xs : Nat → Int32) (D : px_H) (o1 : Option Value) (o2 : Option Value) (o3 : Option Value) : px_run (px_mk (kX12_count X)) 103 ([some (.ref 67), o1, o2, o3], [], (hp M J R c e nL xs D)) =
    some (some (.int (M 67 37)), (hp M J R c e nL xs D)) := (px_run_eq _ _ _).trans rfl
set_option maxRecDepth 40000 in
theorem eX12_count_98 (X : px_X) (M : Nat → Nat → Int32) (J : Nat → Nat → Int64) (R : Nat → Nat → Option Nat) (c e : Nat) (nL : Nat) (xs : Nat → Int32) (D : px_H) (o1 : Option Value) (o2 : Option Value) (o3 : Option Value) : px_run (px_mk (kX12_count X)) 98 ([some (.ref 67), o1, o2, o3], [], (hp M J R c e nL xs D)) =
    some (some (.int (M 67 30)), (hp M J R c e nL xs D)) := (px_run_eq _ _ _).trans rfl
set_option maxRecDepth 40000 in
theorem eX12_count_93 (X : px_X) (M : Nat → Nat → Int32) (J : Nat → Nat → Int64) (R : Nat → Nat → Option Nat) (c e : Nat) (nL : Nat) (xs : Nat → Int32) (D : px_H) (o1 : Option Value) (o2 : Option Value) (o3 : Option Value) : px_run (px_mk (kX12_count X)) 93 ([some (.ref 67), o1, o2, o3], [], (hp M J R c e nL xs D)) =
    some (some (.int (M 67 26)), (hp M J R c e nL xs D)) := (px_run_eq _ _ _).trans rfl
set_option maxRecDepth 40000 in
theorem eX12_count_88 (X : px_X) (M : Nat → Nat → Int32) (J : Nat → Nat → Int64) (R : Nat → Nat → Option Nat) (c e : Nat) (nL : Nat) (xs : Nat → Int32) (D : px_H) (o1 : Option Value) (o2 : Option Value) (o3 : Option Value) : px_run (px_mk (kX12_count X)) 88 ([some (.ref 67), o1, o2, o3], [], (hp M J R c e nL xs D)) =
    some (some (.int (M 67 25)), (hp M J R c e nL xs D)) := (px_run_eq _ _ _).trans rfl
set_option maxRecDepth 40000 in
theorem eX12_count_83 (X : px_X) (M : Nat → Nat → Int32) (J : Nat → Nat → Int64) (R : Nat → Nat → Option Nat) (c e : Nat) (nL : Nat) (xs : Nat → Int32) (D : px_H) (o1 : Option Value) (o2 : Option Value) (o3 : Option Value) : px_run (px_mk (kX12_count X)) 83 ([some (.ref 67), o1, o2, o3], [], (hp M J R c e nL xs D)) =
    some (some (.int (M 67 22)), (hp M J R c e nL xs D)) := (px_run_eq _ _ _).trans rfl
set_option maxRecDepth 40000 in
theorem eX12_count_78 (X : px_X) (M : Nat → Nat → Int32) (J : Nat → Nat → Int64) (R : Nat → Nat → Option Nat) (c e : Nat) (nL : Nat) (xs : Nat → Int32) (D : px_H) (o1 : Option Value) (o2 : Option Value) (o3 : Option Value) : px_run (px_mk (kX12_count X)) 78 ([some (.ref 67), o1, o2, o3], [], (hp M J R c e nL xs D)) =
    some (some (.int (M 67 13)), (hp M J R c e nL xs D)) := (px_run_eq _ _ _).trans rfl
set_option maxRecDepth 40000 in
theorem eX12_count_73 (X : px_X) (M : Nat → Nat → Int32) (J : Nat → Nat → Int64) (R : Nat → Nat → Option Nat) (c e : Nat) (nL : Nat) (xs : Nat → Int32) (D : px_H) (o1 : Option Value) (o2 : Option Value) (o3 : Option Value) : px_run (px_mk (kX12_count X)) 73 ([some (.ref 67), o1, o2, o3], [], (hp M J R c e nL xs D)) =
    some (some (.int (M 67 6)), (hp M J R c e nL xs D)) := (px_run_eq _ _ _).trans rfl
set_option maxRecDepth 40000 in
theorem eX12_count_68 (X : px_X) (M : Nat → Nat → Int32) (J : Nat → Nat → Int64) (R : Nat → Nat → Option Nat) (c e : Nat) (nL : Nat) (xs : Nat → Int32) (D : px_H) (o1 : Option Value) (o2 : Option Value) (o3 : Option Value) : px_run (px_mk (kX12_count X)) 68 ([some (.ref 67), o1, o2, o3], [], (hp M J R c e nL xs D)) =
    some (some (.int (M 67 0)), (hp M J R c e nL xs D)) := (px_run_eq _ _ _).trans rfl
set_option maxRecDepth 40000 in
theorem eX12_count_159_2 (X : px_X) (M : Nat → Nat → Int32) (J : Nat → Nat → Int64) (R : Nat → Nat → Option Nat) (c e : Nat) (nL : Nat) (xs : Nat → Int32) (D : px_H) (v2 : Int32) : px_p (kX12_count X) 159 2 ([some (.ref 67), none, some (.int (v2)), none], [], (hp M J R c e nL xs D)) =
    px_run (px_mk (kX12_count X)) 165 ([some (.ref 67), none, some (.int (v2)), some (.int (0))], [], (hp M J R c e nL xs D)) := rfl
set_option maxRecDepth 40000 in
theorem eX12_count_125 (X : px_X) (M : Nat → Nat → Int32) (J : Nat → Nat → Int64) (R : Nat → Nat → Option Nat) (c e : Nat) (nL : Nat) (xs : Nat → Int32) (D : px_H) (o1 : Option Value) (v2 : Int32) (v3 : Int32) : px_run (px_mk (kX12_count X)) 125 ([some (.ref 67), o1, some (.int (v2)), some (.int (v3))], [], (hp M J R c e nL xs D)) =
    cond (decide (M 67 13 ≤ v3))
    (px_run (px_mk (kX12_count X)) 157 ([some (.ref 67), none, some (.int (v2)), some (.int (v3))], [], (hp M J R c e nL xs D)))
    (cond (px_inb (v3) 20)
    (cond (decide (¬ ((M 83) (Int32.toNatClampNeg (v3))) = (-1)))
    (px_run (px_mk (kX12_count X)) 148 ([some (.ref 67), none, some (.int (v2)), some (.int (v3))], [.int (v2)], (hp M J R c e nL xs D)))
    (px_run (px_mk (kX12_count X)) 149 ([some (.ref 67), none, some (.int (v2)), some (.int (v3))], [.int (1), .int (v2)], (hp M J R c e nL xs D)))) none) := (px_run_eq _ _ _).trans rfl
set_option maxRecDepth 40000 in
theorem eX12_count_165 (X : px_X) (M : Nat → Nat → Int32) (J : Nat → Nat → Int64) (R : Nat → Nat → Option Nat) (c e : Nat) (nL : Nat) (xs : Nat → Int32) (D : px_H) (o1 : Option Value) (v2 : Int32) (v3 : Int32) : px_run (px_mk (kX12_count X)) 165 ([some (.ref 67), o1, some (.int (v2)), some (.int (v3))], [], (hp M J R c e nL xs D)) =
    cond (decide (M 67 6 ≤ v3))
    (px_run (px_mk (kX12_count X)) 196 ([some (.ref 67), none, some (.int (v2)), some (.int (v3))], [], (hp M J R c e nL xs D)))
    (cond (px_inb (v3) 24)
    (cond (decide (((M 76) (Int32.toNatClampNeg (v3))) = 0))
    (px_run (px_mk (kX12_count X)) 187 ([some (.ref 67), none, some (.int (v2)), some (.int (v3))], [.int (v2)], (hp M J R c e nL xs D)))
    (px_run (px_mk (kX12_count X)) 188 ([some (.ref 67), none, some (.int (v2)), some (.int (v3))], [.int (1), .int (v2)], (hp M J R c e nL xs D)))) none) := (px_run_eq _ _ _).trans rfl
set_option maxRecDepth 40000 in
theorem eX12_count_157 (X : px_X) (M : Nat → Nat → Int32) (J : Nat → Nat → Int64) (R : Nat → Nat → Option Nat) (c e : Nat) (nL : Nat) (xs : Nat → Int32) (D : px_H) (o0 : Option Value) (o1 : Option Value) (v2 : Int32) (o3 : Option Value) : px_run (px_mk (kX12_count X)) 157 ([o0, o1, some (.int (v2)), o3], [], (hp M J R c e nL xs D)) =
    some (some (.int (v2)), (hp M J R c e nL xs D)) := (px_run_eq _ _ _).trans rfl
set_option maxRecDepth 40000 in
theorem eX12_count_148 (X : px_X) (M : Nat → Nat → Int32) (J : Nat → Nat → Int64) (R : Nat → Nat → Option Nat) (c e : Nat) (nL : Nat) (xs : Nat → Int32) (D : px_H) (o1 : Option Value) (o2 : Option Value) (v3 : Int32) (w0 : Int32) : px_run (px_mk (kX12_count X)) 148 ([some (.ref 67), o1, o2, some (.int (v3))], [.int (w0)], (hp M J R c e nL xs D)) =
    px_run (px_mk (kX12_count X)) 149 ([some (.ref 67), none, none, some (.int (v3))], [.int (0), .int (w0)], (hp M J R c e nL xs D)) := (px_run_eq _ _ _).trans rfl
set_option maxRecDepth 40000 in
theorem eX12_count_149 (X : px_X) (M : Nat → Nat → Int32) (J : Nat → Nat → Int64) (R : Nat → Nat → Option Nat) (c e : Nat) (nL : Nat) (xs : Nat → Int32) (D : px_H) (o1 : Option Value) (o2 : Option Value) (v3 : Int32) (w0 : Int32) (w1 : Int32) : px_run (px_mk (kX12_count X)) 149 ([some (.ref 67), o1, o2, some (.int (v3))], [.int (w1), .int (w0)], (hp M J R c e nL xs D)) =
    px_run (px_mk (kX12_count X)) 125 ([some (.ref 67), none, some (.int ((w0 + w1))), some (.int ((v3 + 1)))], [], (hp M J R c e nL xs D)) := (px_run_eq _ _ _).trans rfl
set_option maxRecDepth 40000 in
theorem eX12_count_196 (X : px_X) (M : Nat → Nat → Int32) (J : Nat → Nat → Int64) (R : Nat → Nat → Option Nat) (c e : Nat) (nL : Nat) (xs : Nat → Int32) (D : px_H) (o0 : Option Value) (o1 : Option Value) (v2 : Int32) (o3 : Option Value) : px_run (px_mk (kX12_count X)) 196 ([o0, o1, some (.int (v2)), o3], [], (hp M J R c e nL xs D)) =
    some (some (.int (v2)), (hp M J R c e nL xs D)) := (px_run_eq _ _ _).trans rfl
set_option maxRecDepth 40000 in
theorem eX12_count_187 (X : px_X) (M : Nat → Nat → Int32) (J : Nat → Nat → Int64) (R : Nat → Nat → Option Nat) (c e : Nat) (nL : Nat) (xs : Nat → Int32) (D : px_H) (o1 : Option Value) (o2 : Option Value) (v3 : Int32) (w0 : Int32) : px_run (px_mk (kX12_count X)) 187 ([some (.ref 67), o1, o2, some (.int (v3))], [.int (w0)], (hp M J R c e nL xs D)) =
    px_run (px_mk (kX12_count X)) 188 ([some (.ref 67), none, none, some (.int (v3))], [.int (0), .int (w0)], (hp M J R c e nL xs D)) := (px_run_eq _ _ _).trans rfl
set_option maxRecDepth 40000 in
theorem eX12_count_188 (X : px_X) (M : Nat → Nat → Int32) (J : Nat → Nat → Int64) (R : Nat → Nat → Option Nat) (c e : Nat) (nL : Nat) (xs : Nat → Int32) (D : px_H) (o1 : Option Value) (o2 : Option Value) (v3 : Int32) (w0 : Int32) (w1 : Int32) : px_run (px_mk (kX12_count X)) 188 ([some (.ref 67), o1, o2, some (.int (v3))], [.int (w1), .int (w0)], (hp M J R c e nL xs D)) =
    px_run (px_mk (kX12_count X)) 165 ([some (.ref 67), none, some (.int ((w0 + w1))), some (.int ((v3 + 1)))], [], (hp M J R c e nL xs D)) := (px_run_eq _ _ _).trans rfl
set_option maxRecDepth 40000 in
theorem eX12_isSheet_0 (X : px_X) (M : Nat → Nat → Int32) (J : Nat → Nat → Int64) (R : Nat → Nat → Option Nat) (c e : Nat) (nL : Nat) (xs : Nat → Int32) (D : px_H) (v0 : Int32) : px_run (px_mk (kX12_isSheet X)) 0 ([some (.int (v0))], [], (hp M J R c e nL xs D)) =
    px_bd (X 165 [.int (v0), .int (0), .int (3)] (hp M J R c e nL xs D))
    (fun v G1 => px_p (kX12_isSheet X) 0 4 ([some (.int (v0))], px_psh v [], G1)) := (px_run_eq _ _ _).trans rfl
set_option maxRecDepth 40000 in
theorem eX12_isSheet_0_4 (X : px_X) (M : Nat → Nat → Int32) (J : Nat → Nat → Int64) (R : Nat → Nat → Option Nat) (c e : Nat) (nL : Nat) (xs : Nat → Int32) (D : px_H) (v0 : Int32) (w0 : Int32) : px_p (kX12_isSheet X) 0 4 ([some (.int (v0))], [.int (w0)], (hp M J R c e nL xs D)) =
    cond (decide (w0 = 0) || decide (w0 = 1)) (some (some (.int (w0)), (hp M J R c e nL xs D))) none := rfl
set_option maxRecDepth 40000 in
theorem eX12_sheet_0 (X : px_X) (M : Nat → Nat → Int32) (J : Nat → Nat → Int64) (R : Nat → Nat → Option Nat) (c e : Nat) (nL : Nat) (xs : Nat → Int32) (D : px_H) (v1 : Int32) (v2 : Int32) (v3 : Int32) : px_run (px_mk (kX12_sheet X)) 0 ([some (.ref 67), some (.int (v1)), some (.int (v2)), some (.int (v3)), none], [], (hp M J R c e nL xs D)) =
    px_bd (X 251 [.int (v1)] (hp M J R c e nL xs D))
    (fun v G1 => px_p (kX12_sheet X) 0 2 ([some (.ref 67), some (.int (v1)), some (.int (v2)), some (.int (v3)), none], px_psh v [], G1)) := (px_run_eq _ _ _).trans rfl
set_option maxRecDepth 40000 in
theorem eX12_sheet_0_2 (X : px_X) (M : Nat → Nat → Int32) (J : Nat → Nat → Int64) (R : Nat → Nat → Option Nat) (c e : Nat) (nL : Nat) (xs : Nat → Int32) (D : px_H) (v1 : Int32) (v2 : Int32) (v3 : Int32) (w0 : Int32) : px_p (kX12_sheet X) 0 2 ([some (.ref 67), some (.int (v1)), some (.int (v2)), some (.int (v3)), none], [.int (w0)], (hp M J R c e nL xs D)) =
    cond (decide (w0 = 0))
    (px_run (px_mk (kX12_sheet X)) 27 ([some (.ref 67), some (.int (v1)), some (.int (v2)), some (.int (v3)), none], [], (hp M J R c e nL xs D)))
    (px_bd (X 165 [.int (v2), .int ((-1)), .int (2)] (hp M J R c e nL xs D))
    (fun v G1 => px_p (kX12_sheet X) 0 7 ([some (.ref 67), some (.int (v1)), some (.int (v2)), some (.int (v3)), none], px_psh v [], G1))) := rfl
set_option maxRecDepth 40000 in
theorem eX12_sheet_27 (X : px_X) (M : Nat → Nat → Int32) (J : Nat → Nat → Int64) (R : Nat → Nat → Option Nat) (c e : Nat) (nL : Nat) (xs : Nat → Int32) (D : px_H) (o0 : Option Value) (o1 : Option Value) (o2 : Option Value) (o3 : Option Value) (o4 : Option Value) : px_run (px_mk (kX12_sheet X)) 27 ([o0, o1, o2, o3, o4], [], (hp M J R c e nL xs D)) =
    some (some (.int ((-2))), (hp M J R c e nL xs D)) := (px_run_eq _ _ _).trans rfl
set_option maxRecDepth 40000 in
theorem eX12_sheet_0_7 (X : px_X) (M : Nat → Nat → Int32) (J : Nat → Nat → Int64) (R : Nat → Nat → Option Nat) (c e : Nat) (nL : Nat) (xs : Nat → Int32) (D : px_H) (v1 : Int32) (v2 : Int32) (v3 : Int32) (w0 : Int32) : px_p (kX12_sheet X) 0 7 ([some (.ref 67), some (.int (v1)), some (.int (v2)), some (.int (v3)), none], [.int (w0)], (hp M J R c e nL xs D)) =
    cond (decide (w0 = 0))
    (px_run (px_mk (kX12_sheet X)) 27 ([some (.ref 67), some (.int (v1)), some (.int (v2)), some (.int (v3)), none], [], (hp M J R c e nL xs D)))
    (cond (decide (v2 = (-1)))
    (px_run (px_mk (kX12_sheet X)) 30 ([some (.ref 67), some (.int (v1)), some (.int (v2)), some (.int (v3)), none], [], (hp M J R c e nL xs D)))
    (cond (decide (v3 ≤ 40))
    (px_run (px_mk (kX12_sheet X)) 30 ([some (.ref 67), some (.int (v1)), some (.int (v2)), some (.int (v3)), none], [], (hp M J R c e nL xs D)))
    (px_run (px_mk (kX12_sheet X)) 27 ([some (.ref 67), some (.int (v1)), some (.int (v2)), some (.int (v3)), none], [], (hp M J R c e nL xs D))))) := rfl
set_option maxRecDepth 40000 in
theorem eX12_sheet_30 (X : px_X) (M : Nat → Nat → Int32) (J : Nat → Nat → Int64) (R : Nat → Nat → Option Nat) (c e : Nat) (nL : Nat) (xs : Nat → Int32) (D : px_H) (v1 : Int32) (v2 : Int32) (v3 : Int32) (o4 : Option Value) : px_run (px_mk (kX12_sheet X)) 30 ([some (.ref 67), some (.int (v1)), some (.int (v2)), some (.int (v3)), o4], [], (hp M J R c e nL xs D)) =
    cond (decide (v2 = (-1)))
    (px_run (px_mk (kX12_sheet X)) 42 ([some (.ref 67), some (.int (v1)), some (.int (v2)), some (.int (v3)), none], [], (hp M J R c e nL xs D)))
    (cond (decide (0 ≤ v3))
    (px_run (px_mk (kX12_sheet X)) 42 ([some (.ref 67), some (.int (v1)), some (.int (v2)), some (.int (v3)), none], [], (hp M J R c e nL xs D)))
    (some (some (.int ((-14))), (hp M J R c e nL xs D)))) := (px_run_eq _ _ _).trans rfl
set_option maxRecDepth 40000 in
theorem eX12_sheet_42 (X : px_X) (M : Nat → Nat → Int32) (J : Nat → Nat → Int64) (R : Nat → Nat → Option Nat) (c e : Nat) (nL : Nat) (xs : Nat → Int32) (D : px_H) (v1 : Int32) (v2 : Int32) (v3 : Int32) (o4 : Option Value) : px_run (px_mk (kX12_sheet X)) 42 ([some (.ref 67), some (.int (v1)), some (.int (v2)), some (.int (v3)), o4], [], (hp M J R c e nL xs D)) =
    cond (px_inb (v1) 4)
    (cond (decide (¬ v2 = (-1)))
    (px_run (px_mk (kX12_sheet X)) 63 ([some (.ref 67), some (.int (v1)), some (.int (v2)), some (.int (v3)), none], [.int (v1), .ref 103], (hp (px_uR M 102 (upd (M 102) (Int32.toNatClampNeg (v1)) (v2))) J R c e nL xs D)))
    (px_run (px_mk (kX12_sheet X)) 64 ([some (.ref 67), some (.int (v1)), some (.int (v2)), some (.int (v3)), none], [.int (0), .int (v1), .ref 103], (hp (px_uR M 102 (upd (M 102) (Int32.toNatClampNeg (v1)) (v2))) J R c e nL xs D)))) none := (px_run_eq _ _ _).trans rfl
set_option maxRecDepth 40000 in
theorem eX12_sheet_63 (X : px_X) (M : Nat → Nat → Int32) (J : Nat → Nat → Int64) (R : Nat → Nat → Option Nat) (c e : Nat) (nL : Nat) (xs : Nat → Int32) (D : px_H) (v1 : Int32) (o2 : Option Value) (v3 : Int32) (o4 : Option Value) (w1 : Int32) : px_run (px_mk (kX12_sheet X)) 63 ([some (.ref 67), some (.int (v1)), o2, some (.int (v3)), o4], [.int (w1), .ref 103], (hp M J R c e nL xs D)) =
    px_run (px_mk (kX12_sheet X)) 64 ([some (.ref 67), some (.int (v1)), none, some (.int (v3)), none], [.int (v3), .int (w1), .ref 103], (hp M J R c e nL xs D)) := (px_run_eq _ _ _).trans rfl
set_option maxRecDepth 40000 in
theorem eX12_sheet_64 (X : px_X) (M : Nat → Nat → Int32) (J : Nat → Nat → Int64) (R : Nat → Nat → Option Nat) (c e : Nat) (nL : Nat) (xs : Nat → Int32) (D : px_H) (v1 : Int32) (o2 : Option Value) (o3 : Option Value) (o4 : Option Value) (w1 : Int32) (w2 : Int32) : px_run (px_mk (kX12_sheet X)) 64 ([some (.ref 67), some (.int (v1)), o2, o3, o4], [.int (w2), .int (w1), .ref 103], (hp M J R c e nL xs D)) =
    cond (px_inb (w1) 4)
    (px_run (px_mk (kX12_sheet X)) 71 ([some (.ref 67), some (.int (v1)), none, none, some (.int ((40 * v1)))], [], (hp (px_uR M 103 (upd (M 103) (Int32.toNatClampNeg (w1)) (w2))) J R c e nL xs D))) none := (px_run_eq _ _ _).trans rfl
set_option maxRecDepth 40000 in
theorem eX12_sheet_71 (X : px_X) (M : Nat → Nat → Int32) (J : Nat → Nat → Int64) (R : Nat → Nat → Option Nat) (c e : Nat) (nL : Nat) (xs : Nat → Int32) (D : px_H) (v1 : Int32) (o2 : Option Value) (o3 : Option Value) (v4 : Int32) : px_run (px_mk (kX12_sheet X)) 71 ([some (.ref 67), some (.int (v1)), o2, o3, some (.int (v4))], [], (hp M J R c e nL xs D)) =
    cond (decide (((40 * v1) + 40) ≤ v4))
    (px_run (px_mk (kX12_sheet X)) 105 ([some (.ref 67), some (.int (v1)), none, none, some (.int (v4))], [], (hp M J R c e nL xs D)))
    (cond (px_inb (v4) 160)
    (cond (px_inb (v4) 160 && true)
    (px_run (px_mk (kX12_sheet X)) 71 ([some (.ref 67), some (.int (v1)), none, none, some (.int ((v4 + 1)))], [], (hp (px_uR (px_uR M 104 (upd (M 104) (Int32.toNatClampNeg (v4)) (0))) 105 (upd (M 105) (Int32.toNatClampNeg (v4)) (0))) J R c e nL xs D))) none) none) := (px_run_eq _ _ _).trans rfl
set_option maxRecDepth 40000 in
theorem eX12_sheet_105 (X : px_X) (M : Nat → Nat → Int32) (J : Nat → Nat → Int64) (R : Nat → Nat → Option Nat) (c e : Nat) (nL : Nat) (xs : Nat → Int32) (D : px_H) (o0 : Option Value) (o1 : Option Value) (o2 : Option Value) (o3 : Option Value) (o4 : Option Value) : px_run (px_mk (kX12_sheet X)) 105 ([o0, o1, o2, o3, o4], [], (hp M J R c e nL xs D)) =
    some (some (.int (1)), (hp M J R c e nL xs D)) := (px_run_eq _ _ _).trans rfl
set_option maxRecDepth 40000 in
theorem eX12_cell_0 (X : px_X) (M : Nat → Nat → Int32) (J : Nat → Nat → Int64) (R : Nat → Nat → Option Nat) (c e : Nat) (nL : Nat) (xs : Nat → Int32) (D : px_H) (v1 : Int32) (v2 : Int32) (v3 : Int32) : px_run (px_mk (kX12_cell X)) 0 ([some (.ref 67), some (.int (v1)), some (.int (v2)), some (.int (v3))], [], (hp M J R c e nL xs D)) =
    px_bd (X 251 [.int (v1)] (hp M J R c e nL xs D))
    (fun v G1 => px_p (kX12_cell X) 0 2 ([some (.ref 67), some (.int (v1)), some (.int (v2)), some (.int (v3))], px_psh v [], G1)) := (px_run_eq _ _ _).trans rfl
set_option maxRecDepth 40000 in
theorem eX12_cell_0_2 (X : px_X) (M : Nat → Nat → Int32) (J : Nat → Nat → Int64) (R : Nat → Nat → Option Nat) (c e : Nat) (nL : Nat) (xs : Nat → Int32) (D : px_H) (v1 : Int32) (v2 : Int32) (v3 : Int32) (w0 : Int32) : px_p (kX12_cell X) 0 2 ([some (.ref 67), some (.int (v1)), some (.int (v2)), some (.int (v3))], [.int (w0)], (hp M J R c e nL xs D)) =
    cond (decide (w0 = 0))
    (px_run (px_mk (kX12_cell X)) 20 ([some (.ref 67), some (.int (v1)), some (.int (v2)), some (.int (v3))], [], (hp M J R c e nL xs D)))
    (px_bd (X 165 [.int (v3), .int ((-40000)), .int (40000)] (hp M J R c e nL xs D))
    (fun v G1 => px_p (kX12_cell X) 0 7 ([some (.ref 67), some (.int (v1)), some (.int (v2)), some (.int (v3))], px_psh v [], G1))) := rfl
set_option maxRecDepth 40000 in
theorem eX12_cell_20 (X : px_X) (M : Nat → Nat → Int32) (J : Nat → Nat → Int64) (R : Nat → Nat → Option Nat) (c e : Nat) (nL : Nat) (xs : Nat → Int32) (D : px_H) (o0 : Option Value) (o1 : Option Value) (o2 : Option Value) (o3 : Option Value) : px_run (px_mk (kX12_cell X)) 20 ([o0, o1, o2, o3], [], (hp M J R c e nL xs D)) =
    some (some (.int ((-2))), (hp M J R c e nL xs D)) := (px_run_eq _ _ _).trans rfl
set_option maxRecDepth 40000 in
theorem eX12_cell_0_7 (X : px_X) (M : Nat → Nat → Int32) (J : Nat → Nat → Int64) (R : Nat → Nat → Option Nat) (c e : Nat) (nL : Nat) (xs : Nat → Int32) (D : px_H) (v1 : Int32) (v2 : Int32) (v3 : Int32) (w0 : Int32) : px_p (kX12_cell X) 0 7 ([some (.ref 67), some (.int (v1)), some (.int (v2)), some (.int (v3))], [.int (w0)], (hp M J R c e nL xs D)) =
    cond (decide (¬ w0 = 0))
    (px_run (px_mk (kX12_cell X)) 23 ([some (.ref 67), some (.int (v1)), some (.int (v2)), some (.int (v3))], [], (hp M J R c e nL xs D)))
    (px_run (px_mk (kX12_cell X)) 20 ([some (.ref 67), some (.int (v1)), some (.int (v2)), some (.int (v3))], [], (hp M J R c e nL xs D))) := rfl
set_option maxRecDepth 40000 in
theorem eX12_cell_23 (X : px_X) (M : Nat → Nat → Int32) (J : Nat → Nat → Int64) (R : Nat → Nat → Option Nat) (c e : Nat) (nL : Nat) (xs : Nat → Int32) (D : px_H) (v1 : Int32) (v2 : Int32) (v3 : Int32) : px_run (px_mk (kX12_cell X)) 23 ([some (.ref 67), some (.int (v1)), some (.int (v2)), some (.int (v3))], [], (hp M J R c e nL xs D)) =
    cond (px_inb (v1) 4)
    (cond (decide (¬ ((M 102) (Int32.toNatClampNeg (v1))) = (-1)))
    (px_run (px_mk (kX12_cell X)) 36 ([some (.ref 67), some (.int (v1)), some (.int (v2)), some (.int (v3))], [], (hp M J R c e nL xs D)))
    (some (some (.int ((-11))), (hp M J R c e nL xs D)))) none := (px_run_eq _ _ _).trans rfl
set_option maxRecDepth 40000 in
theorem eX12_cell_36 (X : px_X) (M : Nat → Nat → Int32) (J : Nat → Nat → Int64) (R : Nat → Nat → Option Nat) (c e : Nat) (nL : Nat) (xs : Nat → Int32) (D : px_H) (v1 : Int32) (v2 : Int32) (v3 : Int32) : px_run (px_mk (kX12_cell X)) 36 ([some (.ref 67), some (.int (v1)), some (.int (v2)), some (.int (v3))], [], (hp M J R c e nL xs D)) =
    cond (px_inb (v1) 4)
    (px_bd (X 165 [.int (v2), .int (0), .int ((((M 103) (Int32.toNatClampNeg (v1))) - 1))] (hp M J R c e nL xs D))
    (fun v G1 => px_p (kX12_cell X) 36 9 ([some (.ref 67), some (.int (v1)), some (.int (v2)), some (.int (v3))], px_psh v [], G1))) none := (px_run_eq _ _ _).trans rfl
set_option maxRecDepth 40000 in
theorem eX12_cell_36_9 (X : px_X) (M : Nat → Nat → Int32) (J : Nat → Nat → Int64) (R : Nat → Nat → Option Nat) (c e : Nat) (nL : Nat) (xs : Nat → Int32) (D : px_H) (v1 : Int32) (v2 : Int32) (v3 : Int32) (w0 : Int32) : px_p (kX12_cell X) 36 9 ([some (.ref 67), some (.int (v1)), some (.int (v2)), some (.int (v3))], [.int (w0)], (hp M J R c e nL xs D)) =
    cond (decide (¬ w0 = 0))
    (px_run (px_mk (kX12_cell X)) 55 ([some (.ref 67), some (.int (v1)), some (.int (v2)), some (.int (v3))], [], (hp M J R c e nL xs D)))
    (some (some (.int ((-12))), (hp M J R c e nL xs D))) := rfl
set_option maxRecDepth 40000 in
theorem eX12_cell_55 (X : px_X) (M : Nat → Nat → Int32) (J : Nat → Nat → Int64) (R : Nat → Nat → Option Nat) (c e : Nat) (nL : Nat) (xs : Nat → Int32) (D : px_H) (v1 : Int32) (v2 : Int32) (v3 : Int32) : px_run (px_mk (kX12_cell X)) 55 ([some (.ref 67), some (.int (v1)), some (.int (v2)), some (.int (v3))], [], (hp M J R c e nL xs D)) =
    cond (px_inb (((40 * v1) + v2)) 160)
    (cond (px_inb (((40 * v1) + v2)) 160 && true)
    (some (some (.int (1)), (hp (px_uR (px_uR M 104 (upd (M 104) (Int32.toNatClampNeg (((40 * v1) + v2))) (v3))) 105 (upd (M 105) (Int32.toNatClampNeg (((40 * v1) + v2))) (0))) J R c e nL xs D))) none) none := (px_run_eq _ _ _).trans rfl
set_option maxRecDepth 40000 in
theorem eX12_none_0 (X : px_X) (M : Nat → Nat → Int32) (J : Nat → Nat → Int64) (R : Nat → Nat → Option Nat) (c e : Nat) (nL : Nat) (xs : Nat → Int32) (D : px_H) (v1 : Int32) (v2 : Int32) : px_run (px_mk (kX12_none X)) 0 ([some (.ref 67), some (.int (v1)), some (.int (v2))], [], (hp M J R c e nL xs D)) =
    px_bd (X 251 [.int (v1)] (hp M J R c e nL xs D))
    (fun v G1 => px_p (kX12_none X) 0 2 ([some (.ref 67), some (.int (v1)), some (.int (v2))], px_psh v [], G1)) := (px_run_eq _ _ _).trans rfl
set_option maxRecDepth 40000 in
theorem eX12_none_0_2 (X : px_X) (M : Nat → Nat → Int32) (J : Nat → Nat → Int64) (R : Nat → Nat → Option Nat) (c e : Nat) (nL : Nat) (xs : Nat → Int32) (D : px_H) (v1 : Int32) (v2 : Int32) (w0 : Int32) : px_p (kX12_none X) 0 2 ([some (.ref 67), some (.int (v1)), some (.int (v2))], [.int (w0)], (hp M J R c e nL xs D)) =
    cond (decide (¬ w0 = 0))
    (px_run (px_mk (kX12_none X)) 10 ([some (.ref 67), some (.int (v1)), some (.int (v2))], [], (hp M J R c e nL xs D)))
    (some (some (.int ((-2))), (hp M J R c e nL xs D))) := rfl
set_option maxRecDepth 40000 in
theorem eX12_none_10 (X : px_X) (M : Nat → Nat → Int32) (J : Nat → Nat → Int64) (R : Nat → Nat → Option Nat) (c e : Nat) (nL : Nat) (xs : Nat → Int32) (D : px_H) (v1 : Int32) (v2 : Int32) : px_run (px_mk (kX12_none X)) 10 ([some (.ref 67), some (.int (v1)), some (.int (v2))], [], (hp M J R c e nL xs D)) =
    cond (px_inb (v1) 4)
    (cond (decide (((M 102) (Int32.toNatClampNeg (v1))) = (-1)))
    (px_run (px_mk (kX12_none X)) 33 ([some (.ref 67), some (.int (v1)), some (.int (v2))], [], (hp M J R c e nL xs D)))
    (cond (px_inb (v1) 4)
    (cond (decide (((M 102) (Int32.toNatClampNeg (v1))) = 2))
    (px_run (px_mk (kX12_none X)) 33 ([some (.ref 67), some (.int (v1)), some (.int (v2))], [], (hp M J R c e nL xs D)))
    (some (some (.int ((-13))), (hp M J R c e nL xs D)))) none)) none := (px_run_eq _ _ _).trans rfl
set_option maxRecDepth 40000 in
theorem eX12_none_33 (X : px_X) (M : Nat → Nat → Int32) (J : Nat → Nat → Int64) (R : Nat → Nat → Option Nat) (c e : Nat) (nL : Nat) (xs : Nat → Int32) (D : px_H) (v1 : Int32) (v2 : Int32) : px_run (px_mk (kX12_none X)) 33 ([some (.ref 67), some (.int (v1)), some (.int (v2))], [], (hp M J R c e nL xs D)) =
    cond (px_inb (v1) 4)
    (cond (decide (¬ ((M 102) (Int32.toNatClampNeg (v1))) = (-1)))
    (px_run (px_mk (kX12_none X)) 46 ([some (.ref 67), some (.int (v1)), some (.int (v2))], [], (hp M J R c e nL xs D)))
    (some (some (.int ((-11))), (hp M J R c e nL xs D)))) none := (px_run_eq _ _ _).trans rfl
set_option maxRecDepth 40000 in
theorem eX12_none_46 (X : px_X) (M : Nat → Nat → Int32) (J : Nat → Nat → Int64) (R : Nat → Nat → Option Nat) (c e : Nat) (nL : Nat) (xs : Nat → Int32) (D : px_H) (v1 : Int32) (v2 : Int32) : px_run (px_mk (kX12_none X)) 46 ([some (.ref 67), some (.int (v1)), some (.int (v2))], [], (hp M J R c e nL xs D)) =
    cond (px_inb (v1) 4)
    (px_bd (X 165 [.int (v2), .int (0), .int ((((M 103) (Int32.toNatClampNeg (v1))) - 1))] (hp M J R c e nL xs D))
    (fun v G1 => px_p (kX12_none X) 46 9 ([some (.ref 67), some (.int (v1)), some (.int (v2))], px_psh v [], G1))) none := (px_run_eq _ _ _).trans rfl
set_option maxRecDepth 40000 in
theorem eX12_none_46_9 (X : px_X) (M : Nat → Nat → Int32) (J : Nat → Nat → Int64) (R : Nat → Nat → Option Nat) (c e : Nat) (nL : Nat) (xs : Nat → Int32) (D : px_H) (v1 : Int32) (v2 : Int32) (w0 : Int32) : px_p (kX12_none X) 46 9 ([some (.ref 67), some (.int (v1)), some (.int (v2))], [.int (w0)], (hp M J R c e nL xs D)) =
    cond (decide (¬ w0 = 0))
    (px_run (px_mk (kX12_none X)) 65 ([some (.ref 67), some (.int (v1)), some (.int (v2))], [], (hp M J R c e nL xs D)))
    (some (some (.int ((-12))), (hp M J R c e nL xs D))) := rfl
set_option maxRecDepth 40000 in
theorem eX12_none_65 (X : px_X) (M : Nat → Nat → Int32) (J : Nat → Nat → Int64) (R : Nat → Nat → Option Nat) (c e : Nat) (nL : Nat) (xs : Nat → Int32) (D : px_H) (v1 : Int32) (v2 : Int32) : px_run (px_mk (kX12_none X)) 65 ([some (.ref 67), some (.int (v1)), some (.int (v2))], [], (hp M J R c e nL xs D)) =
    cond (px_inb (((40 * v1) + v2)) 160 && true)
    (some (some (.int (1)), (hp (px_uR M 105 (upd (M 105) (Int32.toNatClampNeg (((40 * v1) + v2))) (1))) J R c e nL xs D))) none := (px_run_eq _ _ _).trans rfl
set_option maxRecDepth 40000 in
theorem eX12_taken_0 (X : px_X) (M : Nat → Nat → Int32) (J : Nat → Nat → Int64) (R : Nat → Nat → Option Nat) (c e : Nat) (nL : Nat) (xs : Nat → Int32) (D : px_H) (v1 : Int32) (v2 : Int32) : px_run (px_mk (kX12_taken X)) 0 ([some (.ref 67), some (.int (v1)), some (.int (v2))], [], (hp M J R c e nL xs D)) =
    px_bd (X 165 [.int (v2), .int (0), .int (5)] (hp M J R c e nL xs D))
    (fun v G1 => px_p (kX12_taken X) 0 4 ([some (.ref 67), some (.int (v1)), some (.int (v2))], px_psh v [], G1)) := (px_run_eq _ _ _).trans rfl
set_option maxRecDepth 40000 in
theorem eX12_taken_0_4 (X : px_X) (M : Nat → Nat → Int32) (J : Nat → Nat → Int64) (R : Nat → Nat → Option Nat) (c e : Nat) (nL : Nat) (xs : Nat → Int32) (D : px_H) (v1 : Int32) (v2 : Int32) (w0 : Int32) : px_p (kX12_taken X) 0 4 ([some (.ref 67), some (.int (v1)), some (.int (v2))], [.int (w0)], (hp M J R c e nL xs D)) =
    cond (decide (¬ w0 = 0))
    (px_run (px_mk (kX12_taken X)) 12 ([some (.ref 67), some (.int (v1)), some (.int (v2))], [], (hp M J R c e nL xs D)))
    (some (some (.int ((-2))), (hp M J R c e nL xs D))) := rfl
set_option maxRecDepth 40000 in
theorem eX12_taken_12 (X : px_X) (M : Nat → Nat → Int32) (J : Nat → Nat → Int64) (R : Nat → Nat → Option Nat) (c e : Nat) (nL : Nat) (xs : Nat → Int32) (D : px_H) (v1 : Int32) (v2 : Int32) : px_run (px_mk (kX12_taken X)) 12 ([some (.ref 67), some (.int (v1)), some (.int (v2))], [], (hp M J R c e nL xs D)) =
    px_bd (X 167 [.ref 67, .int (v1)] (hp M J R c e nL xs D))
    (fun v G1 => px_p (kX12_taken X) 12 3 ([some (.ref 67), some (.int (v1)), some (.int (v2))], px_psh v [], G1)) := (px_run_eq _ _ _).trans rfl
set_option maxRecDepth 40000 in
theorem eX12_taken_12_3 (X : px_X) (M : Nat → Nat → Int32) (J : Nat → Nat → Int64) (R : Nat → Nat → Option Nat) (c e : Nat) (nL : Nat) (xs : Nat → Int32) (D : px_H) (v1 : Int32) (v2 : Int32) (w0 : Int32) : px_p (kX12_taken X) 12 3 ([some (.ref 67), some (.int (v1)), some (.int (v2))], [.int (w0)], (hp M J R c e nL xs D)) =
    cond (decide (¬ w0 = 0))
    (px_run (px_mk (kX12_taken X)) 23 ([some (.ref 67), some (.int (v1)), some (.int (v2))], [], (hp M J R c e nL xs D)))
    (some (some (.int ((-11))), (hp M J R c e nL xs D))) := rfl
set_option maxRecDepth 40000 in
theorem eX12_taken_23 (X : px_X) (M : Nat → Nat → Int32) (J : Nat → Nat → Int64) (R : Nat → Nat → Option Nat) (c e : Nat) (nL : Nat) (xs : Nat → Int32) (D : px_H) (v1 : Int32) (v2 : Int32) : px_run (px_mk (kX12_taken X)) 23 ([some (.ref 67), some (.int (v1)), some (.int (v2))], [], (hp M J R c e nL xs D)) =
    cond (px_inb (v1) 20)
    (px_bd (X 190 [.int (((M 77) (Int32.toNatClampNeg (v1)))), .int (v2)] (hp M J R c e nL xs D))
    (fun v G1 => px_p (kX12_taken X) 23 6 ([some (.ref 67), some (.int (v1)), some (.int (v2))], px_psh v [], G1))) none := (px_run_eq _ _ _).trans rfl
set_option maxRecDepth 40000 in
theorem eX12_taken_23_6 (X : px_X) (M : Nat → Nat → Int32) (J : Nat → Nat → Int64) (R : Nat → Nat → Option Nat) (c e : Nat) (nL : Nat) (xs : Nat → Int32) (D : px_H) (v1 : Int32) (v2 : Int32) (w0 : Int32) : px_p (kX12_taken X) 23 6 ([some (.ref 67), some (.int (v1)), some (.int (v2))], [.int (w0)], (hp M J R c e nL xs D)) =
    cond (decide (w0 = 0))
    (px_run (px_mk (kX12_taken X)) 45 ([some (.ref 67), some (.int (v1)), some (.int (v2))], [], (hp M J R c e nL xs D)))
    (cond (px_inb (v1) 20)
    (px_run (px_mk (kX12_taken X)) 47 ([some (.ref 67), some (.int (v1)), some (.int (v2))], [.int (((M 78) (Int32.toNatClampNeg (v1))))], (hp M J R c e nL xs D))) none) := rfl
set_option maxRecDepth 40000 in
theorem eX12_taken_45 (X : px_X) (M : Nat → Nat → Int32) (J : Nat → Nat → Int64) (R : Nat → Nat → Option Nat) (c e : Nat) (nL : Nat) (xs : Nat → Int32) (D : px_H) (o0 : Option Value) (o1 : Option Value) (o2 : Option Value) : px_run (px_mk (kX12_taken X)) 45 ([o0, o1, o2], [], (hp M J R c e nL xs D)) =
    px_run (px_mk (kX12_taken X)) 47 ([none, none, none], [.int ((-13))], (hp M J R c e nL xs D)) := (px_run_eq _ _ _).trans rfl
set_option maxRecDepth 40000 in
theorem eX12_taken_47 (X : px_X) (M : Nat → Nat → Int32) (J : Nat → Nat → Int64) (R : Nat → Nat → Option Nat) (c e : Nat) (nL : Nat) (xs : Nat → Int32) (D : px_H) (o0 : Option Value) (o1 : Option Value) (o2 : Option Value) (w0 : Int32) : px_run (px_mk (kX12_taken X)) 47 ([o0, o1, o2], [.int (w0)], (hp M J R c e nL xs D)) =
    some (some (.int (w0)), (hp M J R c e nL xs D)) := (px_run_eq _ _ _).trans rfl
