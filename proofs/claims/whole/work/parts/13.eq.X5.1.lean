/-! block equations over the fixed layout (written by wip/whole/seg.py) -/
set_option maxRecDepth 40000 in
theorem eX5_readInner_38_0 (X : px_X) (M : Nat → Nat → Int32) (J : Nat → Nat → Int64) (R : Nat → Nat → Option Nat) (nL : Nat) (xs : Nat → Int32) (D : px_H) (v1 : Int32) : px_run (px_mk (kX5_readInner X)) 0 ([some (.ref 37), some (.int (v1))], [], (hp M J R 38 43 nL xs D)) =
    px_bd (X 61 [.ref 37] (hp M J R 38 43 nL xs D))
    (fun v G1 => px_p (kX5_readInner X) 0 2 ([some (.ref 37), some (.int (v1))], px_psh v [], G1)) := (px_run_eq _ _ _).trans rfl
set_option maxRecDepth 40000 in
theorem eX5_readInner_38_0_2 (X : px_X) (M : Nat → Nat → Int32) (J : Nat → Nat → Int64) (R : Nat → Nat → Option Nat) (nL : Nat) (xs : Nat → Int32) (D : px_H) (v1 : Int32) : px_p (kX5_readInner X) 0 2 ([some (.ref 37), some (.int (v1))], [], (hp M J R 38 43 nL xs D)) =
    px_bd (X 52 [.ref 37, .int (v1)] (hp M J R 38 43 nL xs D))
    (fun v G1 => px_p (kX5_readInner X) 0 5 ([some (.ref 37), some (.int (v1))], px_psh v [], G1)) := rfl
set_option maxRecDepth 40000 in
theorem eX5_readInner_38_0_5 (X : px_X) (M : Nat → Nat → Int32) (J : Nat → Nat → Int64) (R : Nat → Nat → Option Nat) (nL : Nat) (xs : Nat → Int32) (D : px_H) (v1 : Int32) (w0 : Int32) : px_p (kX5_readInner X) 0 5 ([some (.ref 37), some (.int (v1))], [.int (w0)], (hp M J R 38 43 nL xs D)) =
    cond (decide (w0 = 0))
    (px_run (px_mk (kX5_readInner X)) 21 ([some (.ref 37), some (.int (v1))], [], (hp M J R 38 43 nL xs D)))
    (cond (decide (M 37 6 = 41))
    (px_run (px_mk (kX5_readInner X)) 23 ([some (.ref 37), some (.int (v1))], [], (hp M J R 38 43 nL xs D)))
    (px_run (px_mk (kX5_readInner X)) 21 ([some (.ref 37), some (.int (v1))], [], (hp M J R 38 43 nL xs D)))) := rfl
set_option maxRecDepth 40000 in
theorem eX5_readInner_38_21 (X : px_X) (M : Nat → Nat → Int32) (J : Nat → Nat → Int64) (R : Nat → Nat → Option Nat) (nL : Nat) (xs : Nat → Int32) (D : px_H) (o0 : Option Value) (o1 : Option Value) : px_run (px_mk (kX5_readInner X)) 21 ([o0, o1], [], (hp M J R 38 43 nL xs D)) =
    some (some (.int (0)), (hp M J R 38 43 nL xs D)) := (px_run_eq _ _ _).trans rfl
set_option maxRecDepth 40000 in
theorem eX5_readInner_38_23 (X : px_X) (M : Nat → Nat → Int32) (J : Nat → Nat → Int64) (R : Nat → Nat → Option Nat) (nL : Nat) (xs : Nat → Int32) (D : px_H) (o1 : Option Value) : px_run (px_mk (kX5_readInner X)) 23 ([some (.ref 37), o1], [], (hp M J R 38 43 nL xs D)) =
    px_bd (X 61 [.ref 37] (hp M J R 38 43 nL xs D))
    (fun v G1 => px_p (kX5_readInner X) 23 2 ([some (.ref 37), none], px_psh v [], G1)) := (px_run_eq _ _ _).trans rfl
set_option maxRecDepth 40000 in
theorem eX5_readInner_38_23_2 (X : px_X) (M : Nat → Nat → Int32) (J : Nat → Nat → Int64) (R : Nat → Nat → Option Nat) (nL : Nat) (xs : Nat → Int32) (D : px_H)  : px_p (kX5_readInner X) 23 2 ([some (.ref 37), none], [], (hp M J R 38 43 nL xs D)) =
    some (some (.int (1)), (hp M J R 38 43 nL xs D)) := rfl
set_option maxRecDepth 40000 in
theorem eX5_readInner_43_0 (X : px_X) (M : Nat → Nat → Int32) (J : Nat → Nat → Int64) (R : Nat → Nat → Option Nat) (nL : Nat) (xs : Nat → Int32) (D : px_H) (v1 : Int32) : px_run (px_mk (kX5_readInner X)) 0 ([some (.ref 37), some (.int (v1))], [], (hp M J R 43 38 nL xs D)) =
    px_bd (X 61 [.ref 37] (hp M J R 43 38 nL xs D))
    (fun v G1 => px_p (kX5_readInner X) 0 2 ([some (.ref 37), some (.int (v1))], px_psh v [], G1)) := (px_run_eq _ _ _).trans rfl
set_option maxRecDepth 40000 in
theorem eX5_readInner_43_0_2 (X : px_X) (M : Nat → Nat → Int32) (J : Nat → Nat → Int64) (R : Nat → Nat → Option Nat) (nL : Nat) (xs : Nat → Int32) (D : px_H) (v1 : Int32) : px_p (kX5_readInner X) 0 2 ([some (.ref 37), some (.int (v1))], [], (hp M J R 43 38 nL xs D)) =
    px_bd (X 52 [.ref 37, .int (v1)] (hp M J R 43 38 nL xs D))
    (fun v G1 => px_p (kX5_readInner X) 0 5 ([some (.ref 37), some (.int (v1))], px_psh v [], G1)) := rfl
set_option maxRecDepth 40000 in
theorem eX5_readInner_43_0_5 (X : px_X) (M : Nat → Nat → Int32) (J : Nat → Nat → Int64) (R : Nat → Nat → Option Nat) (nL : Nat) (xs : Nat → Int32) (D : px_H) (v1 : Int32) (w0 : Int32) : px_p (kX5_readInner X) 0 5 ([some (.ref 37), some (.int (v1))], [.int (w0)], (hp M J R 43 38 nL xs D)) =
    cond (decide (w0 = 0))
    (px_run (px_mk (kX5_readInner X)) 21 ([some (.ref 37), some (.int (v1))], [], (hp M J R 43 38 nL xs D)))
    (cond (decide (M 37 6 = 41))
    (px_run (px_mk (kX5_readInner X)) 23 ([some (.ref 37), some (.int (v1))], [], (hp M J R 43 38 nL xs D)))
    (px_run (px_mk (kX5_readInner X)) 21 ([some (.ref 37), some (.int (v1))], [], (hp M J R 43 38 nL xs D)))) := rfl
set_option maxRecDepth 40000 in
theorem eX5_readInner_43_21 (X : px_X) (M : Nat → Nat → Int32) (J : Nat → Nat → Int64) (R : Nat → Nat → Option Nat) (nL : Nat) (xs : Nat → Int32) (D : px_H) (o0 : Option Value) (o1 : Option Value) : px_run (px_mk (kX5_readInner X)) 21 ([o0, o1], [], (hp M J R 43 38 nL xs D)) =
    some (some (.int (0)), (hp M J R 43 38 nL xs D)) := (px_run_eq _ _ _).trans rfl
set_option maxRecDepth 40000 in
theorem eX5_readInner_43_23 (X : px_X) (M : Nat → Nat → Int32) (J : Nat → Nat → Int64) (R : Nat → Nat → Option Nat) (nL : Nat) (xs : Nat → Int32) (D : px_H) (o1 : Option Value) : px_run (px_mk (kX5_readInner X)) 23 ([some (.ref 37), o1], [], (hp M J R 43 38 nL xs D)) =
    px_bd (X 61 [.ref 37] (hp M J R 43 38 nL xs D))
    (fun v G1 => px_p (kX5_readInner X) 23 2 ([some (.ref 37), none], px_psh v [], G1)) := (px_run_eq _ _ _).trans rfl
set_option maxRecDepth 40000 in
theorem eX5_readInner_43_23_2 (X : px_X) (M : Nat → Nat → Int32) (J : Nat → Nat → Int64) (R : Nat → Nat → Option Nat) (nL : Nat) (xs : Nat → Int32) (D : px_H)  : px_p (kX5_readInner X) 23 2 ([some (.ref 37), none], [], (hp M J R 43 38 nL xs D)) =
    some (some (.int (1)), (hp M J R 43 38 nL xs D)) := rfl
set_option maxRecDepth 40000 in
theorem eX5_next_38_0 (X : px_X) (M : Nat → Nat → Int32) (J : Nat → Nat → Int64) (R : Nat → Nat → Option Nat) (nL : Nat) (xs : Nat → Int32) (D : px_H)  : px_run (px_mk (kX5_next X)) 0 ([some (.ref 37), none], [], (hp M J R 38 43 nL xs D)) =
    px_run (px_mk (kX5_next X)) 5 ([some (.ref 37), some (.int (M 37 5))], [], (hp M J R 38 43 nL xs D)) := (px_run_eq _ _ _).trans rfl
set_option maxRecDepth 40000 in
theorem eX5_next_38_5 (X : px_X) (M : Nat → Nat → Int32) (J : Nat → Nat → Int64) (R : Nat → Nat → Option Nat) (nL : Nat) (xs : Nat → Int32) (D : px_H) (v1 : Int32) : px_run (px_mk (kX5_next X)) 5 ([some (.ref 37), some (.int (v1))], [], (hp M J R 38 43 nL xs D)) =
    cond (decide (M 37 2 ≤ v1))
    (px_run (px_mk (kX5_next X)) 41 ([some (.ref 37), some (.int (v1))], [], (hp M J R 38 43 nL xs D)))
    (cond (px_inb (v1) 160)
    (cond (decide (((M 48) (Int32.toNatClampNeg (v1))) = 32))
    (px_run (px_mk (kX5_next X)) 35 ([some (.ref 37), some (.int (v1))], [], (hp M J R 38 43 nL xs D)))
    (cond (px_inb (v1) 160)
    (cond (decide (¬ ((M 48) (Int32.toNatClampNeg (v1))) = 10))
    (px_run (px_mk (kX5_next X)) 41 ([some (.ref 37), some (.int (v1))], [], (hp M J R 38 43 nL xs D)))
    (px_run (px_mk (kX5_next X)) 35 ([some (.ref 37), some (.int (v1))], [], (hp M J R 38 43 nL xs D)))) none)) none) := (px_run_eq _ _ _).trans rfl
set_option maxRecDepth 40000 in
theorem eX5_next_38_41 (X : px_X) (M : Nat → Nat → Int32) (J : Nat → Nat → Int64) (R : Nat → Nat → Option Nat) (nL : Nat) (xs : Nat → Int32) (D : px_H) (v1 : Int32) : px_run (px_mk (kX5_next X)) 41 ([some (.ref 37), some (.int (v1))], [], (hp M J R 38 43 nL xs D)) =
    cond (decide (v1 < M 37 2))
    (px_run (px_mk (kX5_next X)) 67 ([some (.ref 37), some (.int (v1))], [], (hp (px_uR M 37 (upd (upd (M 37) 4 (v1)) 5 (v1))) J R 38 43 nL xs D)))
    (px_run (px_mk (kX5_next X)) 138 ([some (.ref 37), some (.int (v1))], [], (hp (px_uR M 37 (upd (upd (upd (M 37) 4 (v1)) 5 (v1)) 6 (0))) J R 38 43 nL xs D))) := (px_run_eq _ _ _).trans rfl
set_option maxRecDepth 40000 in
theorem eX5_next_38_35 (X : px_X) (M : Nat → Nat → Int32) (J : Nat → Nat → Int64) (R : Nat → Nat → Option Nat) (nL : Nat) (xs : Nat → Int32) (D : px_H) (v1 : Int32) : px_run (px_mk (kX5_next X)) 35 ([some (.ref 37), some (.int (v1))], [], (hp M J R 38 43 nL xs D)) =
    px_run (px_mk (kX5_next X)) 5 ([some (.ref 37), some (.int ((v1 + 1)))], [], (hp M J R 38 43 nL xs D)) := (px_run_eq _ _ _).trans rfl
set_option maxRecDepth 40000 in
theorem eX5_next_38_67 (X : px_X) (M : Nat → Nat → Int32) (J : Nat → Nat → Int64) (R : Nat → Nat → Option Nat) (nL : Nat) (xs : Nat → Int32) (D : px_H) (v1 : Int32) : px_run (px_mk (kX5_next X)) 67 ([some (.ref 37), some (.int (v1))], [], (hp M J R 38 43 nL xs D)) =
    cond (px_inb (v1) 160)
    (px_bd (X 62 [.int (((M 48) (Int32.toNatClampNeg (v1))))] (hp M J R 38 43 nL xs D))
    (fun v G1 => px_p (kX5_next X) 67 5 ([some (.ref 37), some (.int (v1))], px_psh v [], G1))) none := (px_run_eq _ _ _).trans rfl
set_option maxRecDepth 40000 in
theorem eX5_next_38_138 (X : px_X) (M : Nat → Nat → Int32) (J : Nat → Nat → Int64) (R : Nat → Nat → Option Nat) (nL : Nat) (xs : Nat → Int32) (D : px_H) (o0 : Option Value) (o1 : Option Value) : px_run (px_mk (kX5_next X)) 138 ([o0, o1], [], (hp M J R 38 43 nL xs D)) =
    some (none, (hp M J R 38 43 nL xs D)) := (px_run_eq _ _ _).trans rfl
set_option maxRecDepth 40000 in
theorem eX5_next_38_67_5 (X : px_X) (M : Nat → Nat → Int32) (J : Nat → Nat → Int64) (R : Nat → Nat → Option Nat) (nL : Nat) (xs : Nat → Int32) (D : px_H) (v1 : Int32) (w0 : Int32) : px_p (kX5_next X) 67 5 ([some (.ref 37), some (.int (v1))], [.int (w0)], (hp M J R 38 43 nL xs D)) =
    cond (decide (w0 = 0))
    (px_run (px_mk (kX5_next X)) 86 ([some (.ref 37), some (.int (v1))], [], (hp M J R 38 43 nL xs D)))
    (px_bd (X 66 [.ref 37] (hp M J R 38 43 nL xs D))
    (fun v G1 => px_p (kX5_next X) 67 8 ([some (.ref 37), some (.int (v1))], px_psh v [], G1))) := rfl
set_option maxRecDepth 40000 in
theorem eX5_next_38_86 (X : px_X) (M : Nat → Nat → Int32) (J : Nat → Nat → Int64) (R : Nat → Nat → Option Nat) (nL : Nat) (xs : Nat → Int32) (D : px_H) (v1 : Int32) : px_run (px_mk (kX5_next X)) 86 ([some (.ref 37), some (.int (v1))], [], (hp M J R 38 43 nL xs D)) =
    cond (px_inb (v1) 160)
    (px_bd (X 63 [.int (((M 48) (Int32.toNatClampNeg (v1))))] (hp M J R 38 43 nL xs D))
    (fun v G1 => px_p (kX5_next X) 86 5 ([some (.ref 37), some (.int (v1))], px_psh v [], G1))) none := (px_run_eq _ _ _).trans rfl
set_option maxRecDepth 40000 in
theorem eX5_next_38_67_8 (X : px_X) (M : Nat → Nat → Int32) (J : Nat → Nat → Int64) (R : Nat → Nat → Option Nat) (nL : Nat) (xs : Nat → Int32) (D : px_H) (v1 : Int32) : px_p (kX5_next X) 67 8 ([some (.ref 37), some (.int (v1))], [], (hp M J R 38 43 nL xs D)) =
    px_run (px_mk (kX5_next X)) 138 ([some (.ref 37), some (.int (v1))], [], (hp M J R 38 43 nL xs D)) := rfl
set_option maxRecDepth 40000 in
theorem eX5_next_38_86_5 (X : px_X) (M : Nat → Nat → Int32) (J : Nat → Nat → Int64) (R : Nat → Nat → Option Nat) (nL : Nat) (xs : Nat → Int32) (D : px_H) (v1 : Int32) (w0 : Int32) : px_p (kX5_next X) 86 5 ([some (.ref 37), some (.int (v1))], [.int (w0)], (hp M J R 38 43 nL xs D)) =
    cond (decide (w0 = 0))
    (px_run (px_mk (kX5_next X)) 105 ([some (.ref 37), some (.int (v1))], [], (hp M J R 38 43 nL xs D)))
    (px_bd (X 65 [.ref 37] (hp M J R 38 43 nL xs D))
    (fun v G1 => px_p (kX5_next X) 86 8 ([some (.ref 37), some (.int (v1))], px_psh v [], G1))) := rfl
set_option maxRecDepth 40000 in
theorem eX5_next_38_105 (X : px_X) (M : Nat → Nat → Int32) (J : Nat → Nat → Int64) (R : Nat → Nat → Option Nat) (nL : Nat) (xs : Nat → Int32) (D : px_H) (v1 : Int32) : px_run (px_mk (kX5_next X)) 105 ([some (.ref 37), some (.int (v1))], [], (hp M J R 38 43 nL xs D)) =
    cond (px_inb (v1) 160)
    (px_bd (X 64 [.int (((M 48) (Int32.toNatClampNeg (v1))))] (hp M J R 38 43 nL xs D))
    (fun v G1 => px_p (kX5_next X) 105 6 ([some (.ref 37), some (.int (v1))], px_psh v [.ref 37], G1))) none := (px_run_eq _ _ _).trans rfl
set_option maxRecDepth 40000 in
theorem eX5_next_38_86_8 (X : px_X) (M : Nat → Nat → Int32) (J : Nat → Nat → Int64) (R : Nat → Nat → Option Nat) (nL : Nat) (xs : Nat → Int32) (D : px_H) (v1 : Int32) : px_p (kX5_next X) 86 8 ([some (.ref 37), some (.int (v1))], [], (hp M J R 38 43 nL xs D)) =
    px_run (px_mk (kX5_next X)) 138 ([some (.ref 37), some (.int (v1))], [], (hp M J R 38 43 nL xs D)) := rfl
set_option maxRecDepth 40000 in
theorem eX5_next_38_105_6 (X : px_X) (M : Nat → Nat → Int32) (J : Nat → Nat → Int64) (R : Nat → Nat → Option Nat) (nL : Nat) (xs : Nat → Int32) (D : px_H) (v1 : Int32) (w1 : Int32) : px_p (kX5_next X) 105 6 ([some (.ref 37), some (.int (v1))], [.int (w1), .ref 37], (hp M J R 38 43 nL xs D)) =
    cond (decide (w1 = 0))
    (px_run (px_mk (kX5_next X)) 127 ([some (.ref 37), some (.int (v1))], [.ref 37], (hp M J R 38 43 nL xs D)))
    (cond (px_inb (v1) 160)
    (px_run (px_mk (kX5_next X)) 128 ([some (.ref 37), some (.int (v1))], [.int (((M 48) (Int32.toNatClampNeg (v1)))), .ref 37], (hp M J R 38 43 nL xs D))) none) := rfl
set_option maxRecDepth 40000 in
theorem eX5_next_38_127 (X : px_X) (M : Nat → Nat → Int32) (J : Nat → Nat → Int64) (R : Nat → Nat → Option Nat) (nL : Nat) (xs : Nat → Int32) (D : px_H) (v1 : Int32) : px_run (px_mk (kX5_next X)) 127 ([some (.ref 37), some (.int (v1))], [.ref 37], (hp M J R 38 43 nL xs D)) =
    px_run (px_mk (kX5_next X)) 128 ([some (.ref 37), some (.int (v1))], [.int (1), .ref 37], (hp M J R 38 43 nL xs D)) := (px_run_eq _ _ _).trans rfl
set_option maxRecDepth 40000 in
theorem eX5_next_38_128 (X : px_X) (M : Nat → Nat → Int32) (J : Nat → Nat → Int64) (R : Nat → Nat → Option Nat) (nL : Nat) (xs : Nat → Int32) (D : px_H) (v1 : Int32) (w1 : Int32) : px_run (px_mk (kX5_next X)) 128 ([some (.ref 37), some (.int (v1))], [.int (w1), .ref 37], (hp M J R 38 43 nL xs D)) =
    px_run (px_mk (kX5_next X)) 138 ([some (.ref 37), some (.int (v1))], [], (hp (px_uR M 37 (upd (upd (M 37) 6 (w1)) 5 ((v1 + 1)))) J R 38 43 nL xs D)) := (px_run_eq _ _ _).trans rfl
set_option maxRecDepth 40000 in
theorem eX5_next_43_0 (X : px_X) (M : Nat → Nat → Int32) (J : Nat → Nat → Int64) (R : Nat → Nat → Option Nat) (nL : Nat) (xs : Nat → Int32) (D : px_H)  : px_run (px_mk (kX5_next X)) 0 ([some (.ref 37), none], [], (hp M J R 43 38 nL xs D)) =
    px_run (px_mk (kX5_next X)) 5 ([some (.ref 37), some (.int (M 37 5))], [], (hp M J R 43 38 nL xs D)) := (px_run_eq _ _ _).trans rfl
set_option maxRecDepth 40000 in
theorem eX5_next_43_5 (X : px_X) (M : Nat → Nat → Int32) (J : Nat → Nat → Int64) (R : Nat → Nat → Option Nat) (nL : Nat) (xs : Nat → Int32) (D : px_H) (v1 : Int32) : px_run (px_mk (kX5_next X)) 5 ([some (.ref 37), some (.int (v1))], [], (hp M J R 43 38 nL xs D)) =
    cond (decide (M 37 2 ≤ v1))
    (px_run (px_mk (kX5_next X)) 41 ([some (.ref 37), some (.int (v1))], [], (hp M J R 43 38 nL xs D)))
    (cond (px_inb (v1) 160)
    (cond (decide (((M 48) (Int32.toNatClampNeg (v1))) = 32))
    (px_run (px_mk (kX5_next X)) 35 ([some (.ref 37), some (.int (v1))], [], (hp M J R 43 38 nL xs D)))
    (cond (px_inb (v1) 160)
    (cond (decide (¬ ((M 48) (Int32.toNatClampNeg (v1))) = 10))
    (px_run (px_mk (kX5_next X)) 41 ([some (.ref 37), some (.int (v1))], [], (hp M J R 43 38 nL xs D)))
    (px_run (px_mk (kX5_next X)) 35 ([some (.ref 37), some (.int (v1))], [], (hp M J R 43 38 nL xs D)))) none)) none) := (px_run_eq _ _ _).trans rfl
set_option maxRecDepth 40000 in
theorem eX5_next_43_41 (X : px_X) (M : Nat → Nat → Int32) (J : Nat → Nat → Int64) (R : Nat → Nat → Option Nat) (nL : Nat) (xs : Nat → Int32) (D : px_H) (v1 : Int32) : px_run (px_mk (kX5_next X)) 41 ([some (.ref 37), some (.int (v1))], [], (hp M J R 43 38 nL xs D)) =
    cond (decide (v1 < M 37 2))
    (px_run (px_mk (kX5_next X)) 67 ([some (.ref 37), some (.int (v1))], [], (hp (px_uR M 37 (upd (upd (M 37) 4 (v1)) 5 (v1))) J R 43 38 nL xs D)))
    (px_run (px_mk (kX5_next X)) 138 ([some (.ref 37), some (.int (v1))], [], (hp (px_uR M 37 (upd (upd (upd (M 37) 4 (v1)) 5 (v1)) 6 (0))) J R 43 38 nL xs D))) := (px_run_eq _ _ _).trans rfl
set_option maxRecDepth 40000 in
theorem eX5_next_43_35 (X : px_X) (M : Nat → Nat → Int32) (J : Nat → Nat → Int64) (R : Nat → Nat → Option Nat) (nL : Nat) (xs : Nat → Int32) (D : px_H) (v1 : Int32) : px_run (px_mk (kX5_next X)) 35 ([some (.ref 37), some (.int (v1))], [], (hp M J R 43 38 nL xs D)) =
    px_run (px_mk (kX5_next X)) 5 ([some (.ref 37), some (.int ((v1 + 1)))], [], (hp M J R 43 38 nL xs D)) := (px_run_eq _ _ _).trans rfl
set_option maxRecDepth 40000 in
theorem eX5_next_43_67 (X : px_X) (M : Nat → Nat → Int32) (J : Nat → Nat → Int64) (R : Nat → Nat → Option Nat) (nL : Nat) (xs : Nat → Int32) (D : px_H) (v1 : Int32) : px_run (px_mk (kX5_next X)) 67 ([some (.ref 37), some (.int (v1))], [], (hp M J R 43 38 nL xs D)) =
    cond (px_inb (v1) 160)
    (px_bd (X 62 [.int (((M 48) (Int32.toNatClampNeg (v1))))] (hp M J R 43 38 nL xs D))
    (fun v G1 => px_p (kX5_next X) 67 5 ([some (.ref 37), some (.int (v1))], px_psh v [], G1))) none := (px_run_eq _ _ _).trans rfl
set_option maxRecDepth 40000 in
theorem eX5_next_43_138 (X : px_X) (M : Nat → Nat → Int32) (J : Nat → Nat → Int64) (R : Nat → Nat → Option Nat) (nL : Nat) (xs : Nat → Int32) (D : px_H) (o0 : Option Value) (o1 : Option Value) : px_run (px_mk (kX5_next X)) 138 ([o0, o1], [], (hp M J R 43 38 nL xs D)) =
    some (none, (hp M J R 43 38 nL xs D)) := (px_run_eq _ _ _).trans rfl
set_option maxRecDepth 40000 in
theorem eX5_next_43_67_5 (X : px_X) (M : Nat → Nat → Int32) (J : Nat → Nat → Int64) (R : Nat → Nat → Option Nat) (nL : Nat) (xs : Nat → Int32) (D : px_H) (v1 : Int32) (w0 : Int32) : px_p (kX5_next X) 67 5 ([some (.ref 37), some (.int (v1))], [.int (w0)], (hp M J R 43 38 nL xs D)) =
    cond (decide (w0 = 0))
    (px_run (px_mk (kX5_next X)) 86 ([some (.ref 37), some (.int (v1))], [], (hp M J R 43 38 nL xs D)))
    (px_bd (X 66 [.ref 37] (hp M J R 43 38 nL xs D))
    (fun v G1 => px_p (kX5_next X) 67 8 ([some (.ref 37), some (.int (v1))], px_psh v [], G1))) := rfl
set_option maxRecDepth 40000 in
theorem eX5_next_43_86 (X : px_X) (M : Nat → Nat → Int32) (J : Nat → Nat → Int64) (R : Nat → Nat → Option Nat) (nL : Nat) (xs : Nat → Int32) (D : px_H) (v1 : Int32) : px_run (px_mk (kX5_next X)) 86 ([some (.ref 37), some (.int (v1))], [], (hp M J R 43 38 nL xs D)) =
    cond (px_inb (v1) 160)
    (px_bd (X 63 [.int (((M 48) (Int32.toNatClampNeg (v1))))] (hp M J R 43 38 nL xs D))
    (fun v G1 => px_p (kX5_next X) 86 5 ([some (.ref 37), some (.int (v1))], px_psh v [], G1))) none := (px_run_eq _ _ _).trans rfl
set_option maxRecDepth 40000 in
theorem eX5_next_43_67_8 (X : px_X) (M : Nat → Nat → Int32) (J : Nat → Nat → Int64) (R : Nat → Nat → Option Nat) (nL : Nat) (xs : Nat → Int32) (D : px_H) (v1 : Int32) : px_p (kX5_next X) 67 8 ([some (.ref 37), some (.int (v1))], [], (hp M J R 43 38 nL xs D)) =
    px_run (px_mk (kX5_next X)) 138 ([some (.ref 37), some (.int (v1))], [], (hp M J R 43 38 nL xs D)) := rfl
set_option maxRecDepth 40000 in
theorem eX5_next_43_86_5 (X : px_X) (M : Nat → Nat → Int32) (J : Nat → Nat → Int64) (R : Nat → Nat → Option Nat) (nL : Nat) (xs : Nat → Int32) (D : px_H) (v1 : Int32) (w0 : Int32) : px_p (kX5_next X) 86 5 ([some (.ref 37), some (.int (v1))], [.int (w0)], (hp M J R 43 38 nL xs D)) =
    cond (decide (w0 = 0))
    (px_run (px_mk (kX5_next X)) 105 ([some (.ref 37), some (.int (v1))], [], (hp M J R 43 38 nL xs D)))
    (px_bd (X 65 [.ref 37] (hp M J R 43 38 nL xs D))
    (fun v G1 => px_p (kX5_next X) 86 8 ([some (.ref 37), some (.int (v1))], px_psh v [], G1))) := rfl
set_option maxRecDepth 40000 in
theorem eX5_next_43_105 (X : px_X) (M : Nat → Nat → Int32) (J : Nat → Nat → Int64) (R : Nat → Nat → Option Nat) (nL : Nat) (xs : Nat → Int32) (D : px_H) (v1 : Int32) : px_run (px_mk (kX5_next X)) 105 ([some (.ref 37), some (.int (v1))], [], (hp M J R 43 38 nL xs D)) =
    cond (px_inb (v1) 160)
    (px_bd (X 64 [.int (((M 48) (Int32.toNatClampNeg (v1))))] (hp M J R 43 38 nL xs D))
    (fun v G1 => px_p (kX5_next X) 105 6 ([some (.ref 37), some (.int (v1))], px_psh v [.ref 37], G1))) none := (px_run_eq _ _ _).trans rfl
set_option maxRecDepth 40000 in
theorem eX5_next_43_86_8 (X : px_X) (M : Nat → Nat → Int32) (J : Nat → Nat → Int64) (R : Nat → Nat → Option Nat) (nL : Nat) (xs : Nat → Int32) (D : px_H) (v1 : Int32) : px_p (kX5_next X) 86 8 ([some (.ref 37), some (.int (v1))], [], (hp M J R 43 38 nL xs D)) =
    px_run (px_mk (kX5_next X)) 138 ([some (.ref 37), some (.int (v1))], [], (hp M J R 43 38 nL xs D)) := rfl
set_option maxRecDepth 40000 in
theorem eX5_next_43_105_6 (X : px_X) (M : Nat → Nat → Int32) (J : Nat → Nat → Int64) (R : Nat → Nat → Option Nat) (nL : Nat) (xs : Nat → Int32) (D : px_H) (v1 : Int32) (w1 : Int32) : px_p (kX5_next X) 105 6 ([some (.ref 37), some (.int (v1))], [.int (w1), .ref 37], (hp M J R 43 38 nL xs D)) =
    cond (decide (w1 = 0))
    (px_run (px_mk (kX5_next X)) 127 ([some (.ref 37), some (.int (v1))], [.ref 37], (hp M J R 43 38 nL xs D)))
    (cond (px_inb (v1) 160)
    (px_run (px_mk (kX5_next X)) 128 ([some (.ref 37), some (.int (v1))], [.int (((M 48) (Int32.toNatClampNeg (v1)))), .ref 37], (hp M J R 43 38 nL xs D))) none) := rfl
set_option maxRecDepth 40000 in
theorem eX5_next_43_127 (X : px_X) (M : Nat → Nat → Int32) (J : Nat → Nat → Int64) (R : Nat → Nat → Option Nat) (nL : Nat) (xs : Nat → Int32) (D : px_H) (v1 : Int32) : px_run (px_mk (kX5_next X)) 127 ([some (.ref 37), some (.int (v1))], [.ref 37], (hp M J R 43 38 nL xs D)) =
    px_run (px_mk (kX5_next X)) 128 ([some (.ref 37), some (.int (v1))], [.int (1), .ref 37], (hp M J R 43 38 nL xs D)) := (px_run_eq _ _ _).trans rfl
set_option maxRecDepth 40000 in
theorem eX5_next_43_128 (X : px_X) (M : Nat → Nat → Int32) (J : Nat → Nat → Int64) (R : Nat → Nat → Option Nat) (nL : Nat) (xs : Nat → Int32) (D : px_H) (v1 : Int32) (w1 : Int32) : px_run (px_mk (kX5_next X)) 128 ([some (.ref 37), some (.int (v1))], [.int (w1), .ref 37], (hp M J R 43 38 nL xs D)) =
    px_run (px_mk (kX5_next X)) 138 ([some (.ref 37), some (.int (v1))], [], (hp (px_uR M 37 (upd (upd (M 37) 6 (w1)) 5 ((v1 + 1)))) J R 43 38 nL xs D)) := (px_run_eq _ _ _).trans rfl
set_option maxRecDepth 40000 in
theorem eX5_isLetter_38_0 (X : px_X) (M : Nat → Nat → Int32) (J : Nat → Nat → Int64) (R : Nat → Nat → Option Nat) (nL : Nat) (xs : Nat → Int32) (D : px_H) (v0 : Int32) : px_run (px_mk (kX5_isLetter X)) 0 ([some (.int (v0))], [], (hp M J R 38 43 nL xs D)) =
    cond (decide (v0 < 97))
    (px_run (px_mk (kX5_isLetter X)) 16 ([some (.int (v0))], [], (hp M J R 38 43 nL xs D)))
    (cond (decide (122 < v0))
    (px_run (px_mk (kX5_isLetter X)) 16 ([some (.int (v0))], [], (hp M J R 38 43 nL xs D)))
    (px_run (px_mk (kX5_isLetter X)) 17 ([some (.int (v0))], [.int (1)], (hp M J R 38 43 nL xs D)))) := (px_run_eq _ _ _).trans rfl
set_option maxRecDepth 40000 in
theorem eX5_isLetter_38_16 (X : px_X) (M : Nat → Nat → Int32) (J : Nat → Nat → Int64) (R : Nat → Nat → Option Nat) (nL : Nat) (xs : Nat → Int32) (D : px_H) (o0 : Option Value) : px_run (px_mk (kX5_isLetter X)) 16 ([o0], [], (hp M J R 38 43 nL xs D)) =
    px_run (px_mk (kX5_isLetter X)) 17 ([none], [.int (0)], (hp M J R 38 43 nL xs D)) := (px_run_eq _ _ _).trans rfl
set_option maxRecDepth 40000 in
theorem eX5_isLetter_38_17 (X : px_X) (M : Nat → Nat → Int32) (J : Nat → Nat → Int64) (R : Nat → Nat → Option Nat) (nL : Nat) (xs : Nat → Int32) (D : px_H) (o0 : Option Value) (w0 : Int32) : px_run (px_mk (kX5_isLetter X)) 17 ([o0], [.int (w0)], (hp M J R 38 43 nL xs D)) =
    cond (decide (w0 = 0) || decide (w0 = 1)) (some (some (.int (w0)), (hp M J R 38 43 nL xs D))) none := (px_run_eq _ _ _).trans rfl
set_option maxRecDepth 40000 in
theorem eX5_isLetter_43_0 (X : px_X) (M : Nat → Nat → Int32) (J : Nat → Nat → Int64) (R : Nat → Nat → Option Nat) (nL : Nat) (xs : Nat → Int32) (D : px_H) (v0 : Int32) : px_run (px_mk (kX5_isLetter X)) 0 ([some (.int (v0))], [], (hp M J R 43 38 nL xs D)) =
    cond (decide (v0 < 97))
    (px_run (px_mk (kX5_isLetter X)) 16 ([some (.int (v0))], [], (hp M J R 43 38 nL xs D)))
    (cond (decide (122 < v0))
    (px_run (px_mk (kX5_isLetter X)) 16 ([some (.int (v0))], [], (hp M J R 43 38 nL xs D)))
    (px_run (px_mk (kX5_isLetter X)) 17 ([some (.int (v0))], [.int (1)], (hp M J R 43 38 nL xs D)))) := (px_run_eq _ _ _).trans rfl
set_option maxRecDepth 40000 in
theorem eX5_isLetter_43_16 (X : px_X) (M : Nat → Nat → Int32) (J : Nat → Nat → Int64) (R : Nat → Nat → Option Nat) (nL : Nat) (xs : Nat → Int32) (D : px_H) (o0 : Option Value) : px_run (px_mk (kX5_isLetter X)) 16 ([o0], [], (hp M J R 43 38 nL xs D)) =
    px_run (px_mk (kX5_isLetter X)) 17 ([none], [.int (0)], (hp M J R 43 38 nL xs D)) := (px_run_eq _ _ _).trans rfl
set_option maxRecDepth 40000 in
theorem eX5_isLetter_43_17 (X : px_X) (M : Nat → Nat → Int32) (J : Nat → Nat → Int64) (R : Nat → Nat → Option Nat) (nL : Nat) (xs : Nat → Int32) (D : px_H) (o0 : Option Value) (w0 : Int32) : px_run (px_mk (kX5_isLetter X)) 17 ([o0], [.int (w0)], (hp M J R 43 38 nL xs D)) =
    cond (decide (w0 = 0) || decide (w0 = 1)) (some (some (.int (w0)), (hp M J R 43 38 nL xs D))) none := (px_run_eq _ _ _).trans rfl
set_option maxRecDepth 40000 in
theorem eX5_isDigit_38_0 (X : px_X) (M : Nat → Nat → Int32) (J : Nat → Nat → Int64) (R : Nat → Nat → Option Nat) (nL : Nat) (xs : Nat → Int32) (D : px_H) (v0 : Int32) : px_run (px_mk (kX5_isDigit X)) 0 ([some (.int (v0))], [], (hp M J R 38 43 nL xs D)) =
    cond (decide (v0 < 48))
    (px_run (px_mk (kX5_isDigit X)) 16 ([some (.int (v0))], [], (hp M J R 38 43 nL xs D)))
    (cond (decide (57 < v0))
    (px_run (px_mk (kX5_isDigit X)) 16 ([some (.int (v0))], [], (hp M J R 38 43 nL xs D)))
    (px_run (px_mk (kX5_isDigit X)) 17 ([some (.int (v0))], [.int (1)], (hp M J R 38 43 nL xs D)))) := (px_run_eq _ _ _).trans rfl
set_option maxRecDepth 40000 in
theorem eX5_isDigit_38_16 (X : px_X) (M : Nat → Nat → Int32) (J : Nat → Nat → Int64) (R : Nat → Nat → Option Nat) (nL : Nat) (xs : Nat → Int32) (D : px_H) (o0 : Option Value) : px_run (px_mk (kX5_isDigit X)) 16 ([o0], [], (hp M J R 38 43 nL xs D)) =
    px_run (px_mk (kX5_isDigit X)) 17 ([none], [.int (0)], (hp M J R 38 43 nL xs D)) := (px_run_eq _ _ _).trans rfl
set_option maxRecDepth 40000 in
theorem eX5_isDigit_38_17 (X : px_X) (M : Nat → Nat → Int32) (J : Nat → Nat → Int64) (R : Nat → Nat → Option Nat) (nL : Nat) (xs : Nat → Int32) (D : px_H) (o0 : Option Value) (w0 : Int32) : px_run (px_mk (kX5_isDigit X)) 17 ([o0], [.int (w0)], (hp M J R 38 43 nL xs D)) =
    cond (decide (w0 = 0) || decide (w0 = 1)) (some (some (.int (w0)), (hp M J R 38 43 nL xs D))) none := (px_run_eq _ _ _).trans rfl
set_option maxRecDepth 40000 in
theorem eX5_isDigit_43_0 (X : px_X) (M : Nat → Nat → Int32) (J : Nat → Nat → Int64) (R : Nat → Nat → Option Nat) (nL : Nat) (xs : Nat → Int32) (D : px_H) (v0 : Int32) : px_run (px_mk (kX5_isDigit X)) 0 ([some (.int (v0))], [], (hp M J R 43 38 nL xs D)) =
    cond (decide (v0 < 48))
    (px_run (px_mk (kX5_isDigit X)) 16 ([some (.int (v0))], [], (hp M J R 43 38 nL xs D)))
    (cond (decide (57 < v0))
    (px_run (px_mk (kX5_isDigit X)) 16 ([some (.int (v0))], [], (hp M J R 43 38 nL xs D)))
    (px_run (px_mk (kX5_isDigit X)) 17 ([some (.int (v0))], [.int (1)], (hp M J R 43 38 nL xs D)))) := (px_run_eq _ _ _).trans rfl
set_option maxRecDepth 40000 in
theorem eX5_isDigit_43_16 (X : px_X) (M : Nat → Nat → Int32) (J : Nat → Nat → Int64) (R : Nat → Nat → Option Nat) (nL : Nat) (xs : Nat → Int32) (D : px_H) (o0 : Option Value) : px_run (px_mk (kX5_isDigit X)) 16 ([o0], [], (hp M J R 43 38 nL xs D)) =
    px_run (px_mk (kX5_isDigit X)) 17 ([none], [.int (0)], (hp M J R 43 38 nL xs D)) := (px_run_eq _ _ _).trans rfl
set_option maxRecDepth 40000 in
theorem eX5_isDigit_43_17 (X : px_X) (M : Nat → Nat → Int32) (J : Nat → Nat → Int64) (R : Nat → Nat → Option Nat) (nL : Nat) (xs : Nat → Int32) (D : px_H) (o0 : Option Value) (w0 : Int32) : px_run (px_mk (kX5_isDigit X)) 17 ([o0], [.int (w0)], (hp M J R 43 38 nL xs D)) =
    cond (decide (w0 = 0) || decide (w0 = 1)) (some (some (.int (w0)), (hp M J R 43 38 nL xs D))) none := (px_run_eq _ _ _).trans rfl
set_option maxRecDepth 40000 in
theorem eX5_isSign_38_0 (X : px_X) (M : Nat → Nat → Int32) (J : Nat → Nat → Int64) (R : Nat → Nat → Option Nat) (nL : Nat) (xs : Nat → Int32) (D : px_H) (v0 : Int32) : px_run (px_mk (kX5_isSign X)) 0 ([some (.int (v0))], [], (hp M J R 38 43 nL xs D)) =
    cond (decide (v0 = 40))
    (px_run (px_mk (kX5_isSign X)) 104 ([some (.int (v0))], [], (hp M J R 38 43 nL xs D)))
    (cond (decide (v0 = 41))
    (px_run (px_mk (kX5_isSign X)) 104 ([some (.int (v0))], [], (hp M J R 38 43 nL xs D)))
    (cond (decide (v0 = 42))
    (px_run (px_mk (kX5_isSign X)) 104 ([some (.int (v0))], [], (hp M J R 38 43 nL xs D)))
    (cond (decide (v0 = 43))
    (px_run (px_mk (kX5_isSign X)) 104 ([some (.int (v0))], [], (hp M J R 38 43 nL xs D)))
    (cond (decide (v0 = 44))
    (px_run (px_mk (kX5_isSign X)) 106 ([some (.int (v0))], [], (hp M J R 38 43 nL xs D)))
    (cond (decide (v0 = 45))
    (px_run (px_mk (kX5_isSign X)) 104 ([some (.int (v0))], [], (hp M J R 38 43 nL xs D)))
    (cond (decide (v0 = 46))
    (px_run (px_mk (kX5_isSign X)) 106 ([some (.int (v0))], [], (hp M J R 38 43 nL xs D)))
    (cond (decide (v0 = 47))
    (px_run (px_mk (kX5_isSign X)) 106 ([some (.int (v0))], [], (hp M J R 38 43 nL xs D)))
    (cond (decide (v0 = 48))
    (px_run (px_mk (kX5_isSign X)) 106 ([some (.int (v0))], [], (hp M J R 38 43 nL xs D)))
    (cond (decide (v0 = 49))
    (px_run (px_mk (kX5_isSign X)) 106 ([some (.int (v0))], [], (hp M J R 38 43 nL xs D)))
    (cond (decide (v0 = 50))
    (px_run (px_mk (kX5_isSign X)) 106 ([some (.int (v0))], [], (hp M J R 38 43 nL xs D)))
    (cond (decide (v0 = 51))
    (px_run (px_mk (kX5_isSign X)) 106 ([some (.int (v0))], [], (hp M J R 38 43 nL xs D)))
    (cond (decide (v0 = 52))
    (px_run (px_mk (kX5_isSign X)) 106 ([some (.int (v0))], [], (hp M J R 38 43 nL xs D)))
    (cond (decide (v0 = 53))
    (px_run (px_mk (kX5_isSign X)) 106 ([some (.int (v0))], [], (hp M J R 38 43 nL xs D)))
    (cond (decide (v0 = 54))
    (px_run (px_mk (kX5_isSign X)) 106 ([some (.int (v0))], [], (hp M J R 38 43 nL xs D)))
    (cond (decide (v0 = 55))
    (px_run (px_mk (kX5_isSign X)) 106 ([some (.int (v0))], [], (hp M J R 38 43 nL xs D)))
    (cond (decide (v0 = 56))
    (px_run (px_mk (kX5_isSign X)) 106 ([some (.int (v0))], [], (hp M J R 38 43 nL xs D)))
    (cond (decide (v0 = 57))
    (px_run (px_mk (kX5_isSign X)) 106 ([some (.int (v0))], [], (hp M J R 38 43 nL xs D)))
    (cond (decide (v0 = 58))
    (px_run (px_mk (kX5_isSign X)) 106 ([some (.int (v0))], [], (hp M J R 38 43 nL xs D)))
    (cond (decide (v0 = 59))
    (px_run (px_mk (kX5_isSign X)) 104 ([some (.int (v0))], [], (hp M J R 38 43 nL xs D)))
    (cond (decide (v0 = 60))
    (px_run (px_mk (kX5_isSign X)) 104 ([some (.int (v0))], [], (hp M J R 38 43 nL xs D)))
    (cond (decide (v0 = 61))
    (px_run (px_mk (kX5_isSign X)) 104 ([some (.int (v0))], [], (hp M J R 38 43 nL xs D)))
    (px_run (px_mk (kX5_isSign X)) 106 ([some (.int (v0))], [], (hp M J R 38 43 nL xs D)))))))))))))))))))))))) := (px_run_eq _ _ _).trans rfl
set_option maxRecDepth 40000 in
theorem eX5_isSign_38_106 (X : px_X) (M : Nat → Nat → Int32) (J : Nat → Nat → Int64) (R : Nat → Nat → Option Nat) (nL : Nat) (xs : Nat → Int32) (D : px_H) (o0 : Option Value) : px_run (px_mk (kX5_isSign X)) 106 ([o0], [], (hp M J R 38 43 nL xs D)) =
    some (some (.int (0)), (hp M J R 38 43 nL xs D)) := (px_run_eq _ _ _).trans rfl
set_option maxRecDepth 40000 in
theorem eX5_isSign_38_104 (X : px_X) (M : Nat → Nat → Int32) (J : Nat → Nat → Int64) (R : Nat → Nat → Option Nat) (nL : Nat) (xs : Nat → Int32) (D : px_H) (o0 : Option Value) : px_run (px_mk (kX5_isSign X)) 104 ([o0], [], (hp M J R 38 43 nL xs D)) =
    some (some (.int (1)), (hp M J R 38 43 nL xs D)) := (px_run_eq _ _ _).trans rfl
set_option maxRecDepth 40000 in
theorem eX5_isSign_43_0 (X : px_X) (M : Nat → Nat → Int32) (J : Nat → Nat → Int64) (R : Nat → Nat → Option Nat) (nL : Nat) (xs : Nat → Int32) (D : px_H) (v0 : Int32) : px_run (px_mk (kX5_isSign X)) 0 ([some (.int (v0))], [], (hp M J R 43 38 nL xs D)) =
    cond (decide (v0 = 40))
    (px_run (px_mk (kX5_isSign X)) 104 ([some (.int (v0))], [], (hp M J R 43 38 nL xs D)))
    (cond (decide (v0 = 41))
    (px_run (px_mk (kX5_isSign X)) 104 ([some (.int (v0))], [], (hp M J R 43 38 nL xs D)))
    (cond (decide (v0 = 42))
    (px_run (px_mk (kX5_isSign X)) 104 ([some (.int (v0))], [], (hp M J R 43 38 nL xs D)))
    (cond (decide (v0 = 43))
    (px_run (px_mk (kX5_isSign X)) 104 ([some (.int (v0))], [], (hp M J R 43 38 nL xs D)))
    (cond (decide (v0 = 44))
    (px_run (px_mk (kX5_isSign X)) 106 ([some (.int (v0))], [], (hp M J R 43 38 nL xs D)))
    (cond (decide (v0 = 45))
    (px_run (px_mk (kX5_isSign X)) 104 ([some (.int (v0))], [], (hp M J R 43 38 nL xs D)))
    (cond (decide (v0 = 46))
    (px_run (px_mk (kX5_isSign X)) 106 ([some (.int (v0))], [], (hp M J R 43 38 nL xs D)))
    (cond (decide (v0 = 47))
    (px_run (px_mk (kX5_isSign X)) 106 ([some (.int (v0))], [], (hp M J R 43 38 nL xs D)))
    (cond (decide (v0 = 48))
    (px_run (px_mk (kX5_isSign X)) 106 ([some (.int (v0))], [], (hp M J R 43 38 nL xs D)))
    (cond (decide (v0 = 49))
    (px_run (px_mk (kX5_isSign X)) 106 ([some (.int (v0))], [], (hp M J R 43 38 nL xs D)))
    (cond (decide (v0 = 50))
    (px_run (px_mk (kX5_isSign X)) 106 ([some (.int (v0))], [], (hp M J R 43 38 nL xs D)))
    (cond (decide (v0 = 51))
    (px_run (px_mk (kX5_isSign X)) 106 ([some (.int (v0))], [], (hp M J R 43 38 nL xs D)))
    (cond (decide (v0 = 52))
    (px_run (px_mk (kX5_isSign X)) 106 ([some (.int (v0))], [], (hp M J R 43 38 nL xs D)))
    (cond (decide (v0 = 53))
    (px_run (px_mk (kX5_isSign X)) 106 ([some (.int (v0))], [], (hp M J R 43 38 nL xs D)))
    (cond (decide (v0 = 54))
    (px_run (px_mk (kX5_isSign X)) 106 ([some (.int (v0))], [], (hp M J R 43 38 nL xs D)))
    (cond (decide (v0 = 55))
    (px_run (px_mk (kX5_isSign X)) 106 ([some (.int (v0))], [], (hp M J R 43 38 nL xs D)))
    (cond (decide (v0 = 56))
    (px_run (px_mk (kX5_isSign X)) 106 ([some (.int (v0))], [], (hp M J R 43 38 nL xs D)))
    (cond (decide (v0 = 57))
    (px_run (px_mk (kX5_isSign X)) 106 ([some (.int (v0))], [], (hp M J R 43 38 nL xs D)))
    (cond (decide (v0 = 58))
    (px_run (px_mk (kX5_isSign X)) 106 ([some (.int (v0))], [], (hp M J R 43 38 nL xs D)))
    (cond (decide (v0 = 59))
    (px_run (px_mk (kX5_isSign X)) 104 ([some (.int (v0))], [], (hp M J R 43 38 nL xs D)))
    (cond (decide (v0 = 60))
    (px_run (px_mk (kX5_isSign X)) 104 ([some (.int (v0))], [], (hp M J R 43 38 nL xs D)))
    (cond (decide (v0 = 61))
    (px_run (px_mk (kX5_isSign X)) 104 ([some (.int (v0))], [], (hp M J R 43 38 nL xs D)))
    (px_run (px_mk (kX5_isSign X)) 106 ([some (.int (v0))], [], (hp M J R 43 38 nL xs D)))))))))))))))))))))))) := (px_run_eq _ _ _).trans rfl
set_option maxRecDepth 40000 in
theorem eX5_isSign_43_106 (X : px_X) (M : Nat → Nat → Int32) (J : Nat → Nat → Int64) (R : Nat → Nat → Option Nat) (nL : Nat) (xs : Nat → Int32) (D : px_H) (o0 : Option Value) : px_run (px_mk (kX5_isSign X)) 106 ([o0], [], (hp M J R 43 38 nL xs D)) =
    some (some (.int (0)), (hp M J R 43 38 nL xs D)) := (px_run_eq _ _ _).trans rfl
set_option maxRecDepth 40000 in
theorem eX5_isSign_43_104 (X : px_X) (M : Nat → Nat → Int32) (J : Nat → Nat → Int64) (R : Nat → Nat → Option Nat) (nL : Nat) (xs : Nat → Int32) (D : px_H) (o0 : Option Value) : px_run (px_mk (kX5_isSign X)) 104 ([o0], [], (hp M J R 43 38 nL xs D)) =
    some (some (.int (1)), (hp M J R 43 38 nL xs D)) := (px_run_eq _ _ _).trans rfl
set_option maxRecDepth 40000 in
theorem eX5_takeNumber_38_0 (X : px_X) (M : Nat → Nat → Int32) (J : Nat → Nat → Int64) (R : Nat → Nat → Option Nat) (nL : Nat) (xs : Nat → Int32) (D : px_H)  : px_run (px_mk (kX5_takeNumber X)) 0 ([some (.ref 37)], [], (hp M J R 38 43 nL xs D)) =
    px_run (px_mk (kX5_takeNumber X)) 5 ([some (.ref 37)], [], (hp (px_uR M 37 (upd (M 37) 7 (0))) J R 38 43 nL xs D)) := (px_run_eq _ _ _).trans rfl
set_option maxRecDepth 40000 in
theorem eX5_takeNumber_38_5 (X : px_X) (M : Nat → Nat → Int32) (J : Nat → Nat → Int64) (R : Nat → Nat → Option Nat) (nL : Nat) (xs : Nat → Int32) (D : px_H)  : px_run (px_mk (kX5_takeNumber X)) 5 ([some (.ref 37)], [], (hp M J R 38 43 nL xs D)) =
    cond (decide (M 37 2 ≤ M 37 5))
    (px_run (px_mk (kX5_takeNumber X)) 68 ([some (.ref 37)], [], (hp M J R 38 43 nL xs D)))
    (cond (px_inb (M 37 5) 160)
    (px_bd (X 63 [.int (((M 48) (Int32.toNatClampNeg (M 37 5))))] (hp M J R 38 43 nL xs D))
    (fun v G1 => px_p (kX5_takeNumber X) 5 11 ([some (.ref 37)], px_psh v [], G1))) none) := (px_run_eq _ _ _).trans rfl
set_option maxRecDepth 40000 in
theorem eX5_takeNumber_38_68 (X : px_X) (M : Nat → Nat → Int32) (J : Nat → Nat → Int64) (R : Nat → Nat → Option Nat) (nL : Nat) (xs : Nat → Int32) (D : px_H)  : px_run (px_mk (kX5_takeNumber X)) 68 ([some (.ref 37)], [], (hp M J R 38 43 nL xs D)) =
    cond (decide ((M 37 5 - M 37 4) ≤ 4))
    (px_run (px_mk (kX5_takeNumber X)) 86 ([some (.ref 37)], [.ref 37], (hp M J R 38 43 nL xs D)))
    (px_run (px_mk (kX5_takeNumber X)) 87 ([some (.ref 37)], [.int (1), .ref 37], (hp M J R 38 43 nL xs D))) := (px_run_eq _ _ _).trans rfl
set_option maxRecDepth 40000 in
theorem eX5_takeNumber_38_5_11 (X : px_X) (M : Nat → Nat → Int32) (J : Nat → Nat → Int64) (R : Nat → Nat → Option Nat) (nL : Nat) (xs : Nat → Int32) (D : px_H) (w0 : Int32) : px_p (kX5_takeNumber X) 5 11 ([some (.ref 37)], [.int (w0)], (hp M J R 38 43 nL xs D)) =
    cond (decide (w0 = 0))
    (px_run (px_mk (kX5_takeNumber X)) 68 ([some (.ref 37)], [], (hp M J R 38 43 nL xs D)))
    (cond (px_inb (M 37 5) 160)
    (px_run (px_mk (kX5_takeNumber X)) 5 ([some (.ref 37)], [], (hp (px_uR M 37 (upd (upd (M 37) 7 ((((10 * M 37 7) + ((M 48) (Int32.toNatClampNeg (M 37 5)))) - 48))) 5 ((M 37 5 + 1)))) J R 38 43 nL xs D))) none) := rfl
set_option maxRecDepth 40000 in
theorem eX5_takeNumber_38_86 (X : px_X) (M : Nat → Nat → Int32) (J : Nat → Nat → Int64) (R : Nat → Nat → Option Nat) (nL : Nat) (xs : Nat → Int32) (D : px_H) (o0 : Option Value) : px_run (px_mk (kX5_takeNumber X)) 86 ([o0], [.ref 37], (hp M J R 38 43 nL xs D)) =
    px_run (px_mk (kX5_takeNumber X)) 87 ([none], [.int (2), .ref 37], (hp M J R 38 43 nL xs D)) := (px_run_eq _ _ _).trans rfl
set_option maxRecDepth 40000 in
theorem eX5_takeNumber_38_87 (X : px_X) (M : Nat → Nat → Int32) (J : Nat → Nat → Int64) (R : Nat → Nat → Option Nat) (nL : Nat) (xs : Nat → Int32) (D : px_H) (o0 : Option Value) (w1 : Int32) : px_run (px_mk (kX5_takeNumber X)) 87 ([o0], [.int (w1), .ref 37], (hp M J R 38 43 nL xs D)) =
    some (none, (hp (px_uR M 37 (upd (M 37) 6 (w1))) J R 38 43 nL xs D)) := (px_run_eq _ _ _).trans rfl
set_option maxRecDepth 40000 in
theorem eX5_takeNumber_43_0 (X : px_X) (M : Nat → Nat → Int32) (J : Nat → Nat → Int64) (R : Nat → Nat → Option Nat) (nL : Nat) (xs : Nat → Int32) (D : px_H)  : px_run (px_mk (kX5_takeNumber X)) 0 ([some (.ref 37)], [], (hp M J R 43 38 nL xs D)) =
    px_run (px_mk (kX5_takeNumber X)) 5 ([some (.ref 37)], [], (hp (px_uR M 37 (upd (M 37) 7 (0))) J R 43 38 nL xs D)) := (px_run_eq _ _ _).trans rfl
set_option maxRecDepth 40000 in
theorem eX5_takeNumber_43_5 (X : px_X) (M : Nat → Nat → Int32) (J : Nat → Nat → Int64) (R : Nat → Nat → Option Nat) (nL : Nat) (xs : Nat → Int32) (D : px_H)  : px_run (px_mk (kX5_takeNumber X)) 5 ([some (.ref 37)], [], (hp M J R 43 38 nL xs D)) =
    cond (decide (M 37 2 ≤ M 37 5))
    (px_run (px_mk (kX5_takeNumber X)) 68 ([some (.ref 37)], [], (hp M J R 43 38 nL xs D)))
    (cond (px_inb (M 37 5) 160)
    (px_bd (X 63 [.int (((M 48) (Int32.toNatClampNeg (M 37 5))))] (hp M J R 43 38 nL xs D))
    (fun v G1 => px_p (kX5_takeNumber X) 5 11 ([some (.ref 37)], px_psh v [], G1))) none) := (px_run_eq _ _ _).trans rfl
set_option maxRecDepth 40000 in
theorem eX5_takeNumber_43_68 (X : px_X) (M : Nat → Nat → Int32) (J : Nat → Nat → Int64) (R : Nat → Nat → Option Nat) (nL : Nat) (xs : Nat → Int32) (D : px_H)  : px_run (px_mk (kX5_takeNumber X)) 68 ([some (.ref 37)], [], (hp M J R 43 38 nL xs D)) =
    cond (decide ((M 37 5 - M 37 4) ≤ 4))
    (px_run (px_mk (kX5_takeNumber X)) 86 ([some (.ref 37)], [.ref 37], (hp M J R 43 38 nL xs D)))
    (px_run (px_mk (kX5_takeNumber X)) 87 ([some (.ref 37)], [.int (1), .ref 37], (hp M J R 43 38 nL xs D))) := (px_run_eq _ _ _).trans rfl
set_option maxRecDepth 40000 in
theorem eX5_takeNumber_43_5_11 (X : px_X) (M : Nat → Nat → Int32) (J : Nat → Nat → Int64) (R : Nat → Nat → Option Nat) (nL : Nat) (xs : Nat → Int32) (D : px_H) (w0 : Int32) : px_p (kX5_takeNumber X) 5 11 ([some (.ref 37)], [.int (w0)], (hp M J R 43 38 nL xs D)) =
    cond (decide (w0 = 0))
    (px_run (px_mk (kX5_takeNumber X)) 68 ([some (.ref 37)], [], (hp M J R 43 38 nL xs D)))
    (cond (px_inb (M 37 5) 160)
    (px_run (px_mk (kX5_takeNumber X)) 5 ([some (.ref 37)], [], (hp (px_uR M 37 (upd (upd (M 37) 7 ((((10 * M 37 7) + ((M 48) (Int32.toNatClampNeg (M 37 5)))) - 48))) 5 ((M 37 5 + 1)))) J R 43 38 nL xs D))) none) := rfl
set_option maxRecDepth 40000 in
theorem eX5_takeNumber_43_86 (X : px_X) (M : Nat → Nat → Int32) (J : Nat → Nat → Int64) (R : Nat → Nat → Option Nat) (nL : Nat) (xs : Nat → Int32) (D : px_H) (o0 : Option Value) : px_run (px_mk (kX5_takeNumber X)) 86 ([o0], [.ref 37], (hp M J R 43 38 nL xs D)) =
    px_run (px_mk (kX5_takeNumber X)) 87 ([none], [.int (2), .ref 37], (hp M J R 43 38 nL xs D)) := (px_run_eq _ _ _).trans rfl
set_option maxRecDepth 40000 in
theorem eX5_takeNumber_43_87 (X : px_X) (M : Nat → Nat → Int32) (J : Nat → Nat → Int64) (R : Nat → Nat → Option Nat) (nL : Nat) (xs : Nat → Int32) (D : px_H) (o0 : Option Value) (w1 : Int32) : px_run (px_mk (kX5_takeNumber X)) 87 ([o0], [.int (w1), .ref 37], (hp M J R 43 38 nL xs D)) =
    some (none, (hp (px_uR M 37 (upd (M 37) 6 (w1))) J R 43 38 nL xs D)) := (px_run_eq _ _ _).trans rfl
set_option maxRecDepth 40000 in
theorem eX5_takeWord_38_0 (X : px_X) (M : Nat → Nat → Int32) (J : Nat → Nat → Int64) (R : Nat → Nat → Option Nat) (nL : Nat) (xs : Nat → Int32) (D : px_H)  : px_run (px_mk (kX5_takeWord X)) 0 ([some (.ref 37), none], [], (hp M J R 38 43 nL xs D)) =
    cond (decide (M 37 2 ≤ M 37 5))
    (px_run (px_mk (kX5_takeWord X)) 39 ([some (.ref 37), none], [], (hp M J R 38 43 nL xs D)))
    (cond (px_inb (M 37 5) 160)
    (px_bd (X 62 [.int (((M 48) (Int32.toNatClampNeg (M 37 5))))] (hp M J R 38 43 nL xs D))
    (fun v G1 => px_p (kX5_takeWord X) 0 11 ([some (.ref 37), none], px_psh v [], G1))) none) := (px_run_eq _ _ _).trans rfl
set_option maxRecDepth 40000 in
theorem eX5_takeWord_38_39 (X : px_X) (M : Nat → Nat → Int32) (J : Nat → Nat → Int64) (R : Nat → Nat → Option Nat) (nL : Nat) (xs : Nat → Int32) (D : px_H) (o1 : Option Value) : px_run (px_mk (kX5_takeWord X)) 39 ([some (.ref 37), o1], [], (hp M J R 38 43 nL xs D)) =
    px_run (px_mk (kX5_takeWord X)) 46 ([some (.ref 37), some (.int (0))], [], (hp (px_uR M 37 (upd (M 37) 6 (1))) J R 38 43 nL xs D)) := (px_run_eq _ _ _).trans rfl
set_option maxRecDepth 40000 in
theorem eX5_takeWord_38_0_11 (X : px_X) (M : Nat → Nat → Int32) (J : Nat → Nat → Int64) (R : Nat → Nat → Option Nat) (nL : Nat) (xs : Nat → Int32) (D : px_H) (w0 : Int32) : px_p (kX5_takeWord X) 0 11 ([some (.ref 37), none], [.int (w0)], (hp M J R 38 43 nL xs D)) =
    cond (decide (w0 = 0))
    (px_run (px_mk (kX5_takeWord X)) 39 ([some (.ref 37), none], [], (hp M J R 38 43 nL xs D)))
    (px_run (px_mk (kX5_takeWord X)) 0 ([some (.ref 37), none], [], (hp (px_uR M 37 (upd (M 37) 5 ((M 37 5 + 1)))) J R 38 43 nL xs D))) := rfl
set_option maxRecDepth 40000 in
theorem eX5_takeWord_38_46 (X : px_X) (M : Nat → Nat → Int32) (J : Nat → Nat → Int64) (R : Nat → Nat → Option Nat) (nL : Nat) (xs : Nat → Int32) (D : px_H) (v1 : Int32) : px_run (px_mk (kX5_takeWord X)) 46 ([some (.ref 37), some (.int (v1))], [], (hp M J R 38 43 nL xs D)) =
    cond (decide (10 ≤ v1))
    (px_run (px_mk (kX5_takeWord X)) 95 ([some (.ref 37), some (.int (v1))], [], (hp M J R 38 43 nL xs D)))
    (px_bd (X 68 [.int (v1)] (hp M J R 38 43 nL xs D))
    (fun v G1 => px_p (kX5_takeWord X) 46 6 ([some (.ref 37), some (.int (v1))], px_psh v [.ref 37], G1))) := (px_run_eq _ _ _).trans rfl
set_option maxRecDepth 40000 in
theorem eX5_takeWord_38_95 (X : px_X) (M : Nat → Nat → Int32) (J : Nat → Nat → Int64) (R : Nat → Nat → Option Nat) (nL : Nat) (xs : Nat → Int32) (D : px_H) (o0 : Option Value) (o1 : Option Value) : px_run (px_mk (kX5_takeWord X)) 95 ([o0, o1], [], (hp M J R 38 43 nL xs D)) =
    some (none, (hp M J R 38 43 nL xs D)) := (px_run_eq _ _ _).trans rfl
set_option maxRecDepth 40000 in
theorem eX5_takeWord_38_46_6 (X : px_X) (M : Nat → Nat → Int32) (J : Nat → Nat → Int64) (R : Nat → Nat → Option Nat) (nL : Nat) (xs : Nat → Int32) (D : px_H) (v1 : Int32) (g1 : Nat) : px_p (kX5_takeWord X) 46 6 ([some (.ref 37), some (.int (v1))], [.ref (g1), .ref 37], (hp M J R 38 43 nL xs D)) =
    px_bd (X 67 [.ref 37, .ref (g1)] (hp M J R 38 43 nL xs D))
    (fun v G1 => px_p (kX5_takeWord X) 46 7 ([some (.ref 37), some (.int (v1))], px_psh v [], G1)) := rfl
set_option maxRecDepth 40000 in
theorem eX5_takeWord_38_46_6_b (X : px_X) (M : Nat → Nat → Int32) (J : Nat → Nat → Int64) (R : Nat → Nat → Option Nat) (nL : Nat) (xs : Nat → Int32) (D : px_H) (v1 : Int32) : px_p (kX5_takeWord X) 46 6 ([some (.ref 37), some (.int (v1))], [.null, .ref 37], (hp M J R 38 43 nL xs D)) =
    px_bd (X 67 [.ref 37, .null] (hp M J R 38 43 nL xs D))
    (fun v G1 => px_p (kX5_takeWord X) 46 7 ([some (.ref 37), some (.int (v1))], px_psh v [], G1)) := rfl
set_option maxRecDepth 40000 in
theorem eX5_takeWord_38_46_7 (X : px_X) (M : Nat → Nat → Int32) (J : Nat → Nat → Int64) (R : Nat → Nat → Option Nat) (nL : Nat) (xs : Nat → Int32) (D : px_H) (v1 : Int32) (w0 : Int32) : px_p (kX5_takeWord X) 46 7 ([some (.ref 37), some (.int (v1))], [.int (w0)], (hp M J R 38 43 nL xs D)) =
    cond (decide (w0 = 0))
    (px_run (px_mk (kX5_takeWord X)) 89 ([some (.ref 37), some (.int (v1))], [], (hp M J R 38 43 nL xs D)))
    (cond (decide (6 ≤ v1))
    (px_run (px_mk (kX5_takeWord X)) 74 ([some (.ref 37), some (.int (v1))], [.ref 37], (hp M J R 38 43 nL xs D)))
    (px_run (px_mk (kX5_takeWord X)) 81 ([some (.ref 37), some (.int (v1))], [.int (3), .ref 37], (hp M J R 38 43 nL xs D)))) := rfl
set_option maxRecDepth 40000 in
theorem eX5_takeWord_38_89 (X : px_X) (M : Nat → Nat → Int32) (J : Nat → Nat → Int64) (R : Nat → Nat → Option Nat) (nL : Nat) (xs : Nat → Int32) (D : px_H) (v1 : Int32) : px_run (px_mk (kX5_takeWord X)) 89 ([some (.ref 37), some (.int (v1))], [], (hp M J R 38 43 nL xs D)) =
    px_run (px_mk (kX5_takeWord X)) 46 ([some (.ref 37), some (.int ((v1 + 1)))], [], (hp M J R 38 43 nL xs D)) := (px_run_eq _ _ _).trans rfl
set_option maxRecDepth 40000 in
theorem eX5_takeWord_38_74 (X : px_X) (M : Nat → Nat → Int32) (J : Nat → Nat → Int64) (R : Nat → Nat → Option Nat) (nL : Nat) (xs : Nat → Int32) (D : px_H) (v1 : Int32) : px_run (px_mk (kX5_takeWord X)) 74 ([some (.ref 37), some (.int (v1))], [.ref 37], (hp M J R 38 43 nL xs D)) =
    px_run (px_mk (kX5_takeWord X)) 81 ([some (.ref 37), some (.int (v1))], [.int (((10 + v1) - 6)), .ref 37], (hp M J R 38 43 nL xs D)) := (px_run_eq _ _ _).trans rfl
set_option maxRecDepth 40000 in
theorem eX5_takeWord_38_81 (X : px_X) (M : Nat → Nat → Int32) (J : Nat → Nat → Int64) (R : Nat → Nat → Option Nat) (nL : Nat) (xs : Nat → Int32) (D : px_H) (v1 : Int32) (w1 : Int32) : px_run (px_mk (kX5_takeWord X)) 81 ([some (.ref 37), some (.int (v1))], [.int (w1), .ref 37], (hp M J R 38 43 nL xs D)) =
    px_run (px_mk (kX5_takeWord X)) 89 ([some (.ref 37), some (.int (v1))], [], (hp (px_uR M 37 (upd (upd (M 37) 6 (w1)) 7 (v1))) J R 38 43 nL xs D)) := (px_run_eq _ _ _).trans rfl
set_option maxRecDepth 40000 in
theorem eX5_takeWord_43_0 (X : px_X) (M : Nat → Nat → Int32) (J : Nat → Nat → Int64) (R : Nat → Nat → Option Nat) (nL : Nat) (xs : Nat → Int32) (D : px_H)  : px_run (px_mk (kX5_takeWord X)) 0 ([some (.ref 37), none], [], (hp M J R 43 38 nL xs D)) =
    cond (decide (M 37 2 ≤ M 37 5))
    (px_run (px_mk (kX5_takeWord X)) 39 ([some (.ref 37), none], [], (hp M J R 43 38 nL xs D)))
    (cond (px_inb (M 37 5) 160)
    (px_bd (X 62 [.int (((M 48) (Int32.toNatClampNeg (M 37 5))))] (hp M J R 43 38 nL xs D))
    (fun v G1 => px_p (kX5_takeWord X) 0 11 ([some (.ref 37), none], px_psh v [], G1))) none) := (px_run_eq _ _ _).trans rfl
set_option maxRecDepth 40000 in
theorem eX5_takeWord_43_39 (X : px_X) (M : Nat → Nat → Int32) (J : Nat → Nat → Int64) (R : Nat → Nat → Option Nat) (nL : Nat) (xs : Nat → Int32) (D : px_H) (o1 : Option Value) : px_run (px_mk (kX5_takeWord X)) 39 ([some (.ref 37), o1], [], (hp M J R 43 38 nL xs D)) =
    px_run (px_mk (kX5_takeWord X)) 46 ([some (.ref 37), some (.int (0))], [], (hp (px_uR M 37 (upd (M 37) 6 (1))) J R 43 38 nL xs D)) := (px_run_eq _ _ _).trans rfl
set_option maxRecDepth 40000 in
theorem eX5_takeWord_43_0_11 (X : px_X) (M : Nat → Nat → Int32) (J : Nat → Nat → Int64) (R : Nat → Nat → Option Nat) (nL : Nat) (xs : Nat → Int32) (D : px_H) (w0 : Int32) : px_p (kX5_takeWord X) 0 11 ([some (.ref 37), none], [.int (w0)], (hp M J R 43 38 nL xs D)) =
    cond (decide (w0 = 0))
    (px_run (px_mk (kX5_takeWord X)) 39 ([some (.ref 37), none], [], (hp M J R 43 38 nL xs D)))
    (px_run (px_mk (kX5_takeWord X)) 0 ([some (.ref 37), none], [], (hp (px_uR M 37 (upd (M 37) 5 ((M 37 5 + 1)))) J R 43 38 nL xs D))) := rfl
set_option maxRecDepth 40000 in
theorem eX5_takeWord_43_46 (X : px_X) (M : Nat → Nat → Int32) (J : Nat → Nat → Int64) (R : Nat → Nat → Option Nat) (nL : Nat) (xs : Nat → Int32) (D : px_H) (v1 : Int32) : px_run (px_mk (kX5_takeWord X)) 46 ([some (.ref 37), some (.int (v1))], [], (hp M J R 43 38 nL xs D)) =
    cond (decide (10 ≤ v1))
    (px_run (px_mk (kX5_takeWord X)) 95 ([some (.ref 37), some (.int (v1))], [], (hp M J R 43 38 nL xs D)))
    (px_bd (X 68 [.int (v1)] (hp M J R 43 38 nL xs D))
    (fun v G1 => px_p (kX5_takeWord X) 46 6 ([some (.ref 37), some (.int (v1))], px_psh v [.ref 37], G1))) := (px_run_eq _ _ _).trans rfl
set_option maxRecDepth 40000 in
theorem eX5_takeWord_43_95 (X : px_X) (M : Nat → Nat → Int32) (J : Nat → Nat → Int64) (R : Nat → Nat → Option Nat) (nL : Nat) (xs : Nat → Int32) (D : px_H) (o0 : Option Value) (o1 : Option Value) : px_run (px_mk (kX5_takeWord X)) 95 ([o0, o1], [], (hp M J R 43 38 nL xs D)) =
    some (none, (hp M J R 43 38 nL xs D)) := (px_run_eq _ _ _).trans rfl
set_option maxRecDepth 40000 in
theorem eX5_takeWord_43_46_6 (X : px_X) (M : Nat → Nat → Int32) (J : Nat → Nat → Int64) (R : Nat → Nat → Option Nat) (nL : Nat) (xs : Nat → Int32) (D : px_H) (v1 : Int32) (g1 : Nat) : px_p (kX5_takeWord X) 46 6 ([some (.ref 37), some (.int (v1))], [.ref (g1), .ref 37], (hp M J R 43 38 nL xs D)) =
    px_bd (X 67 [.ref 37, .ref (g1)] (hp M J R 43 38 nL xs D))
    (fun v G1 => px_p (kX5_takeWord X) 46 7 ([some (.ref 37), some (.int (v1))], px_psh v [], G1)) := rfl
set_option maxRecDepth 40000 in
theorem eX5_takeWord_43_46_6_b (X : px_X) (M : Nat → Nat → Int32) (J : Nat → Nat → Int64) (R : Nat → Nat → Option Nat) (nL : Nat) (xs : Nat → Int32) (D : px_H) (v1 : Int32) : px_p (kX5_takeWord X) 46 6 ([some (.ref 37), some (.int (v1))], [.null, .ref 37], (hp M J R 43 38 nL xs D)) =
    px_bd (X 67 [.ref 37, .null] (hp M J R 43 38 nL xs D))
    (fun v G1 => px_p (kX5_takeWord X) 46 7 ([some (.ref 37), some (.int (v1))], px_psh v [], G1)) := rfl
set_option maxRecDepth 40000 in
theorem eX5_takeWord_43_46_7 (X : px_X) (M : Nat → Nat → Int32) (J : Nat → Nat → Int64) (R : Nat → Nat → Option Nat) (nL : Nat) (xs : Nat → Int32) (D : px_H) (v1 : Int32) (w0 : Int32) : px_p (kX5_takeWord X) 46 7 ([some (.ref 37), some (.int (v1))], [.int (w0)], (hp M J R 43 38 nL xs D)) =
    cond (decide (w0 = 0))
    (px_run (px_mk (kX5_takeWord X)) 89 ([some (.ref 37), some (.int (v1))], [], (hp M J R 43 38 nL xs D)))
    (cond (decide (6 ≤ v1))
    (px_run (px_mk (kX5_takeWord X)) 74 ([some (.ref 37), some (.int (v1))], [.ref 37], (hp M J R 43 38 nL xs D)))
    (px_run (px_mk (kX5_takeWord X)) 81 ([some (.ref 37), some (.int (v1))], [.int (3), .ref 37], (hp M J R 43 38 nL xs D)))) := rfl
set_option maxRecDepth 40000 in
theorem eX5_takeWord_43_89 (X : px_X) (M : Nat → Nat → Int32) (J : Nat → Nat → Int64) (R : Nat → Nat → Option Nat) (nL : Nat) (xs : Nat → Int32) (D : px_H) (v1 : Int32) : px_run (px_mk (kX5_takeWord X)) 89 ([some (.ref 37), some (.int (v1))], [], (hp M J R 43 38 nL xs D)) =
    px_run (px_mk (kX5_takeWord X)) 46 ([some (.ref 37), some (.int ((v1 + 1)))], [], (hp M J R 43 38 nL xs D)) := (px_run_eq _ _ _).trans rfl
set_option maxRecDepth 40000 in
theorem eX5_takeWord_43_74 (X : px_X) (M : Nat → Nat → Int32) (J : Nat → Nat → Int64) (R : Nat → Nat → Option Nat) (nL : Nat) (xs : Nat → Int32) (D : px_H) (v1 : Int32) : px_run (px_mk (kX5_takeWord X)) 74 ([some (.ref 37), some (.int (v1))], [.ref 37], (hp M J R 43 38 nL xs D)) =
    px_run (px_mk (kX5_takeWord X)) 81 ([some (.ref 37), some (.int (v1))], [.int (((10 + v1) - 6)), .ref 37], (hp M J R 43 38 nL xs D)) := (px_run_eq _ _ _).trans rfl
set_option maxRecDepth 40000 in
theorem eX5_takeWord_43_81 (X : px_X) (M : Nat → Nat → Int32) (J : Nat → Nat → Int64) (R : Nat → Nat → Option Nat) (nL : Nat) (xs : Nat → Int32) (D : px_H) (v1 : Int32) (w1 : Int32) : px_run (px_mk (kX5_takeWord X)) 81 ([some (.ref 37), some (.int (v1))], [.int (w1), .ref 37], (hp M J R 43 38 nL xs D)) =
    px_run (px_mk (kX5_takeWord X)) 89 ([some (.ref 37), some (.int (v1))], [], (hp (px_uR M 37 (upd (upd (M 37) 6 (w1)) 7 (v1))) J R 43 38 nL xs D)) := (px_run_eq _ _ _).trans rfl
set_option maxRecDepth 40000 in
theorem eX5_isAtHand_38_0 (X : px_X) (M : Nat → Nat → Int32) (J : Nat → Nat → Int64) (R : Nat → Nat → Option Nat) (nL : Nat) (xs : Nat → Int32) (D : px_H) (f1 : Nat) : px_run (px_mk (kX5_isAtHand X)) 0 ([some (.ref 37), some (.ref (f1)), none], [], (hp M J R 38 43 nL xs D)) =
    px_p (kX5_isAtHand X) 0 1 ([some (.ref 37), some (.ref (f1)), none], [.ref (f1)], (hp M J R 38 43 nL xs D)) := (px_run_eq _ _ _).trans rfl
set_option maxRecDepth 40000 in
theorem eX5_isAtHand_38_0_2 (X : px_X) (M : Nat → Nat → Int32) (J : Nat → Nat → Int64) (R : Nat → Nat → Option Nat) (nL : Nat) (xs : Nat → Int32) (D : px_H) (f1 : Nat) (w0 : Int32) : px_p (kX5_isAtHand X) 0 2 ([some (.ref 37), some (.ref (f1)), none], [.int (w0)], (hp M J R 38 43 nL xs D)) =
    cond (decide (w0 = (M 37 5 - M 37 4)))
    (px_run (px_mk (kX5_isAtHand X)) 18 ([some (.ref 37), some (.ref (f1)), none], [], (hp M J R 38 43 nL xs D)))
    (some (some (.int (0)), (hp M J R 38 43 nL xs D))) := rfl
set_option maxRecDepth 40000 in
theorem eX5_isAtHand_38_18 (X : px_X) (M : Nat → Nat → Int32) (J : Nat → Nat → Int64) (R : Nat → Nat → Option Nat) (nL : Nat) (xs : Nat → Int32) (D : px_H) (f1 : Nat) (o2 : Option Value) : px_run (px_mk (kX5_isAtHand X)) 18 ([some (.ref 37), some (.ref (f1)), o2], [], (hp M J R 38 43 nL xs D)) =
    px_run (px_mk (kX5_isAtHand X)) 20 ([some (.ref 37), some (.ref (f1)), some (.int (0))], [], (hp M J R 38 43 nL xs D)) := (px_run_eq _ _ _).trans rfl
set_option maxRecDepth 40000 in
theorem eX5_isAtHand_38_20 (X : px_X) (M : Nat → Nat → Int32) (J : Nat → Nat → Int64) (R : Nat → Nat → Option Nat) (nL : Nat) (xs : Nat → Int32) (D : px_H) (f1 : Nat) (v2 : Int32) : px_run (px_mk (kX5_isAtHand X)) 20 ([some (.ref 37), some (.ref (f1)), some (.int (v2))], [], (hp M J R 38 43 nL xs D)) =
    px_p (kX5_isAtHand X) 20 2 ([some (.ref 37), some (.ref (f1)), some (.int (v2))], [.ref (f1), .int (v2)], (hp M J R 38 43 nL xs D)) := (px_run_eq _ _ _).trans rfl
set_option maxRecDepth 40000 in
theorem eX5_isAtHand_38_20_3 (X : px_X) (M : Nat → Nat → Int32) (J : Nat → Nat → Int64) (R : Nat → Nat → Option Nat) (nL : Nat) (xs : Nat → Int32) (D : px_H) (f1 : Nat) (v2 : Int32) (w0 : Int32) (w1 : Int32) : px_p (kX5_isAtHand X) 20 3 ([some (.ref 37), some (.ref (f1)), some (.int (v2))], [.int (w1), .int (w0)], (hp M J R 38 43 nL xs D)) =
    cond (decide (w1 ≤ w0))
    (px_run (px_mk (kX5_isAtHand X)) 55 ([some (.ref 37), some (.ref (f1)), some (.int (v2))], [], (hp M J R 38 43 nL xs D)))
    (px_p (kX5_isAtHand X) 20 6 ([some (.ref 37), some (.ref (f1)), some (.int (v2))], [.int (v2), .ref (f1)], (hp M J R 38 43 nL xs D))) := rfl
set_option maxRecDepth 40000 in
theorem eX5_isAtHand_38_55 (X : px_X) (M : Nat → Nat → Int32) (J : Nat → Nat → Int64) (R : Nat → Nat → Option Nat) (nL : Nat) (xs : Nat → Int32) (D : px_H) (o0 : Option Value) (o1 : Option Value) (o2 : Option Value) : px_run (px_mk (kX5_isAtHand X)) 55 ([o0, o1, o2], [], (hp M J R 38 43 nL xs D)) =
    some (some (.int (1)), (hp M J R 38 43 nL xs D)) := (px_run_eq _ _ _).trans rfl
set_option maxRecDepth 40000 in
theorem eX5_isAtHand_38_20_7 (X : px_X) (M : Nat → Nat → Int32) (J : Nat → Nat → Int64) (R : Nat → Nat → Option Nat) (nL : Nat) (xs : Nat → Int32) (D : px_H) (f1 : Nat) (v2 : Int32) (w0 : Int32) : px_p (kX5_isAtHand X) 20 7 ([some (.ref 37), some (.ref (f1)), some (.int (v2))], [.int (w0)], (hp M J R 38 43 nL xs D)) =
    cond (px_inb ((M 37 4 + v2)) 160)
    (cond (decide (w0 = ((M 48) (Int32.toNatClampNeg ((M 37 4 + v2))))))
    (px_run (px_mk (kX5_isAtHand X)) 49 ([some (.ref 37), some (.ref (f1)), some (.int (v2))], [], (hp M J R 38 43 nL xs D)))
    (some (some (.int (0)), (hp M J R 38 43 nL xs D)))) none := rfl
set_option maxRecDepth 40000 in
theorem eX5_isAtHand_38_49 (X : px_X) (M : Nat → Nat → Int32) (J : Nat → Nat → Int64) (R : Nat → Nat → Option Nat) (nL : Nat) (xs : Nat → Int32) (D : px_H) (f1 : Nat) (v2 : Int32) : px_run (px_mk (kX5_isAtHand X)) 49 ([some (.ref 37), some (.ref (f1)), some (.int (v2))], [], (hp M J R 38 43 nL xs D)) =
    px_run (px_mk (kX5_isAtHand X)) 20 ([some (.ref 37), some (.ref (f1)), some (.int ((v2 + 1)))], [], (hp M J R 38 43 nL xs D)) := (px_run_eq _ _ _).trans rfl
set_option maxRecDepth 40000 in
theorem eX5_isAtHand_43_0 (X : px_X) (M : Nat → Nat → Int32) (J : Nat → Nat → Int64) (R : Nat → Nat → Option Nat) (nL : Nat) (xs : Nat → Int32) (D : px_H) (f1 : Nat) : px_run (px_mk (kX5_isAtHand X)) 0 ([some (.ref 37), some (.ref (f1)), none], [], (hp M J R 43 38 nL xs D)) =
    px_p (kX5_isAtHand X) 0 1 ([some (.ref 37), some (.ref (f1)), none], [.ref (f1)], (hp M J R 43 38 nL xs D)) := (px_run_eq _ _ _).trans rfl
set_option maxRecDepth 40000 in
theorem eX5_isAtHand_43_0_2 (X : px_X) (M : Nat → Nat → Int32) (J : Nat → Nat → Int64) (R : Nat → Nat → Option Nat) (nL : Nat) (xs : Nat → Int32) (D : px_H) (f1 : Nat) (w0 : Int32) : px_p (kX5_isAtHand X) 0 2 ([some (.ref 37), some (.ref (f1)), none], [.int (w0)], (hp M J R 43 38 nL xs D)) =
    cond (decide (w0 = (M 37 5 - M 37 4)))
    (px_run (px_mk (kX5_isAtHand X)) 18 ([some (.ref 37), some (.ref (f1)), none], [], (hp M J R 43 38 nL xs D)))
    (some (some (.int (0)), (hp M J R 43 38 nL xs D))) := rfl
set_option maxRecDepth 40000 in
theorem eX5_isAtHand_43_18 (X : px_X) (M : Nat → Nat → Int32) (J : Nat → Nat → Int64) (R : Nat → Nat → Option Nat) (nL : Nat) (xs : Nat → Int32) (D : px_H) (f1 : Nat) (o2 : Option Value) : px_run (px_mk (kX5_isAtHand X)) 18 ([some (.ref 37), some (.ref (f1)), o2], [], (hp M J R 43 38 nL xs D)) =
    px_run (px_mk (kX5_isAtHand X)) 20 ([some (.ref 37), some (.ref (f1)), some (.int (0))], [], (hp M J R 43 38 nL xs D)) := (px_run_eq _ _ _).trans rfl
set_option maxRecDepth 40000 in
theorem eX5_isAtHand_43_20 (X : px_X) (M : Nat → Nat → Int32) (J : Nat → Nat → Int64) (R : Nat → Nat → Option Nat) (nL : Nat) (xs : Nat → Int32) (D : px_H) (f1 : Nat) (v2 : Int32) : px_run (px_mk (kX5_isAtHand X)) 20 ([some (.ref 37), some (.ref (f1)), some (.int (v2))], [], (hp M J R 43 38 nL xs D)) =
    px_p (kX5_isAtHand X) 20 2 ([some (.ref 37), some (.ref (f1)), some (.int (v2))], [.ref (f1), .int (v2)], (hp M J R 43 38 nL xs D)) := (px_run_eq _ _ _).trans rfl
set_option maxRecDepth 40000 in
theorem eX5_isAtHand_43_20_3 (X : px_X) (M : Nat → Nat → Int32) (J : Nat → Nat → Int64) (R : Nat → Nat → Option Nat) (nL : Nat) (xs : Nat → Int32) (D : px_H) (f1 : Nat) (v2 : Int32) (w0 : Int32) (w1 : Int32) : px_p (kX5_isAtHand X) 20 3 ([some (.ref 37), some (.ref (f1)), some (.int (v2))], [.int (w1), .int (w0)], (hp M J R 43 38 nL xs D)) =
    cond (decide (w1 ≤ w0))
    (px_run (px_mk (kX5_isAtHand X)) 55 ([some (.ref 37), some (.ref (f1)), some (.int (v2))], [], (hp M J R 43 38 nL xs D)))
    (px_p (kX5_isAtHand X) 20 6 ([some (.ref 37), some (.ref (f1)), some (.int (v2))], [.int (v2), .ref (f1)], (hp M J R 43 38 nL xs D))) := rfl
set_option maxRecDepth 40000 in
theorem eX5_isAtHand_43_55 (X : px_X) (M : Nat → Nat → Int32) (J : Nat → Nat → Int64) (R : Nat → Nat → Option Nat) (nL : Nat) (xs : Nat → Int32) (D : px_H) (o0 : Option Value) (o1 : Option Value) (o2 : Option Value) : px_run (px_mk (kX5_isAtHand X)) 55 ([o0, o1, o2], [], (hp M J R 43 38 nL xs D)) =
    some (some (.int (1)), (hp M J R 43 38 nL xs D)) := (px_run_eq _ _ _).trans rfl
set_option maxRecDepth 40000 in
theorem eX5_isAtHand_43_20_7 (X : px_X) (M : Nat → Nat → Int32) (J : Nat → Nat → Int64) (R : Nat → Nat → Option Nat) (nL : Nat) (xs : Nat → Int32) (D : px_H) (f1 : Nat) (v2 : Int32) (w0 : Int32) : px_p (kX5_isAtHand X) 20 7 ([some (.ref 37), some (.ref (f1)), some (.int (v2))], [.int (w0)], (hp M J R 43 38 nL xs D)) =
    cond (px_inb ((M 37 4 + v2)) 160)
    (cond (decide (w0 = ((M 48) (Int32.toNatClampNeg ((M 37 4 + v2))))))
    (px_run (px_mk (kX5_isAtHand X)) 49 ([some (.ref 37), some (.ref (f1)), some (.int (v2))], [], (hp M J R 43 38 nL xs D)))
    (some (some (.int (0)), (hp M J R 43 38 nL xs D)))) none := rfl
set_option maxRecDepth 40000 in
theorem eX5_isAtHand_43_49 (X : px_X) (M : Nat → Nat → Int32) (J : Nat → Nat → Int64) (R : Nat → Nat → Option Nat) (nL : Nat) (xs : Nat → Int32) (D : px_H) (f1 : Nat) (v2 : Int32) : px_run (px_mk (kX5_isAtHand X)) 49 ([some (.ref 37), some (.ref (f1)), some (.int (v2))], [], (hp M J R 43 38 nL xs D)) =
    px_run (px_mk (kX5_isAtHand X)) 20 ([some (.ref 37), some (.ref (f1)), some (.int ((v2 + 1)))], [], (hp M J R 43 38 nL xs D)) := (px_run_eq _ _ _).trans rfl
set_option maxRecDepth 40000 in
theorem eX5_wordAt_38_0 (X : px_X) (M : Nat → Nat → Int32) (J : Nat → Nat → Int64) (R : Nat → Nat → Option Nat) (nL : Nat) (xs : Nat → Int32) (D : px_H) (v0 : Int32) : px_run (px_mk (kX5_wordAt X)) 0 ([some (.int (v0))], [], (hp M J R 38 43 nL xs D)) =
    cond (decide (v0 = 0))
    (px_run (px_mk (kX5_wordAt X)) 52 ([some (.int (v0))], [], (hp M J R 38 43 nL xs D)))
    (cond (decide (v0 = 1))
    (px_run (px_mk (kX5_wordAt X)) 55 ([some (.int (v0))], [], (hp M J R 38 43 nL xs D)))
    (cond (decide (v0 = 2))
    (px_run (px_mk (kX5_wordAt X)) 58 ([some (.int (v0))], [], (hp M J R 38 43 nL xs D)))
    (cond (decide (v0 = 3))
    (px_run (px_mk (kX5_wordAt X)) 61 ([some (.int (v0))], [], (hp M J R 38 43 nL xs D)))
    (cond (decide (v0 = 4))
    (px_run (px_mk (kX5_wordAt X)) 64 ([some (.int (v0))], [], (hp M J R 38 43 nL xs D)))
    (cond (decide (v0 = 5))
    (px_run (px_mk (kX5_wordAt X)) 67 ([some (.int (v0))], [], (hp M J R 38 43 nL xs D)))
    (cond (decide (v0 = 6))
    (px_run (px_mk (kX5_wordAt X)) 70 ([some (.int (v0))], [], (hp M J R 38 43 nL xs D)))
    (cond (decide (v0 = 7))
    (px_run (px_mk (kX5_wordAt X)) 73 ([some (.int (v0))], [], (hp M J R 38 43 nL xs D)))
    (cond (decide (v0 = 8))
    (px_run (px_mk (kX5_wordAt X)) 76 ([some (.int (v0))], [], (hp M J R 38 43 nL xs D)))
    (px_run (px_mk (kX5_wordAt X)) 79 ([some (.int (v0))], [], (hp M J R 38 43 nL xs D))))))))))) := (px_run_eq _ _ _).trans rfl
set_option maxRecDepth 40000 in
theorem eX5_wordAt_38_79 (X : px_X) (M : Nat → Nat → Int32) (J : Nat → Nat → Int64) (R : Nat → Nat → Option Nat) (nL : Nat) (xs : Nat → Int32) (D : px_H) (o0 : Option Value) : px_run (px_mk (kX5_wordAt X)) 79 ([o0], [], (hp M J R 38 43 nL xs D)) =
    some (some (.ref 12), (hp M J R 38 43 nL xs D)) := (px_run_eq _ _ _).trans rfl
set_option maxRecDepth 40000 in
theorem eX5_wordAt_38_76 (X : px_X) (M : Nat → Nat → Int32) (J : Nat → Nat → Int64) (R : Nat → Nat → Option Nat) (nL : Nat) (xs : Nat → Int32) (D : px_H) (o0 : Option Value) : px_run (px_mk (kX5_wordAt X)) 76 ([o0], [], (hp M J R 38 43 nL xs D)) =
    some (some (.ref 11), (hp M J R 38 43 nL xs D)) := (px_run_eq _ _ _).trans rfl
set_option maxRecDepth 40000 in
theorem eX5_wordAt_38_73 (X : px_X) (M : Nat → Nat → Int32) (J : Nat → Nat → Int64) (R : Nat → Nat → Option Nat) (nL : Nat) (xs : Nat → Int32) (D : px_H) (o0 : Option Value) : px_run (px_mk (kX5_wordAt X)) 73 ([o0], [], (hp M J R 38 43 nL xs D)) =
    some (some (.ref 10), (hp M J R 38 43 nL xs D)) := (px_run_eq _ _ _).trans rfl
set_option maxRecDepth 40000 in
theorem eX5_wordAt_38_70 (X : px_X) (M : Nat → Nat → Int32) (J : Nat → Nat → Int64) (R : Nat → Nat → Option Nat) (nL : Nat) (xs : Nat → Int32) (D : px_H) (o0 : Option Value) : px_run (px_mk (kX5_wordAt X)) 70 ([o0], [], (hp M J R 38 43 nL xs D)) =
    some (some (.ref 9), (hp M J R 38 43 nL xs D)) := (px_run_eq _ _ _).trans rfl
set_option maxRecDepth 40000 in
theorem eX5_wordAt_38_67 (X : px_X) (M : Nat → Nat → Int32) (J : Nat → Nat → Int64) (R : Nat → Nat → Option Nat) (nL : Nat) (xs : Nat → Int32) (D : px_H) (o0 : Option Value) : px_run (px_mk (kX5_wordAt X)) 67 ([o0], [], (hp M J R 38 43 nL xs D)) =
    some (some (.ref 8), (hp M J R 38 43 nL xs D)) := (px_run_eq _ _ _).trans rfl
set_option maxRecDepth 40000 in
theorem eX5_wordAt_38_64 (X : px_X) (M : Nat → Nat → Int32) (J : Nat → Nat → Int64) (R : Nat → Nat → Option Nat) (nL : Nat) (xs : Nat → Int32) (D : px_H) (o0 : Option Value) : px_run (px_mk (kX5_wordAt X)) 64 ([o0], [], (hp M J R 38 43 nL xs D)) =
    some (some (.ref 7), (hp M J R 38 43 nL xs D)) := (px_run_eq _ _ _).trans rfl
set_option maxRecDepth 40000 in
theorem eX5_wordAt_38_61 (X : px_X) (M : Nat → Nat → Int32) (J : Nat → Nat → Int64) (R : Nat → Nat → Option Nat) (nL : Nat) (xs : Nat → Int32) (D : px_H) (o0 : Option Value) : px_run (px_mk (kX5_wordAt X)) 61 ([o0], [], (hp M J R 38 43 nL xs D)) =
    some (some (.ref 6), (hp M J R 38 43 nL xs D)) := (px_run_eq _ _ _).trans rfl
set_option maxRecDepth 40000 in
theorem eX5_wordAt_38_58 (X : px_X) (M : Nat → Nat → Int32) (J : Nat → Nat → Int64) (R : Nat → Nat → Option Nat) (nL : Nat) (xs : Nat → Int32) (D : px_H) (o0 : Option Value) : px_run (px_mk (kX5_wordAt X)) 58 ([o0], [], (hp M J R 38 43 nL xs D)) =
    some (some (.ref 5), (hp M J R 38 43 nL xs D)) := (px_run_eq _ _ _).trans rfl
set_option maxRecDepth 40000 in
theorem eX5_wordAt_38_55 (X : px_X) (M : Nat → Nat → Int32) (J : Nat → Nat → Int64) (R : Nat → Nat → Option Nat) (nL : Nat) (xs : Nat → Int32) (D : px_H) (o0 : Option Value) : px_run (px_mk (kX5_wordAt X)) 55 ([o0], [], (hp M J R 38 43 nL xs D)) =
    some (some (.ref 4), (hp M J R 38 43 nL xs D)) := (px_run_eq _ _ _).trans rfl
set_option maxRecDepth 40000 in
theorem eX5_wordAt_38_52 (X : px_X) (M : Nat → Nat → Int32) (J : Nat → Nat → Int64) (R : Nat → Nat → Option Nat) (nL : Nat) (xs : Nat → Int32) (D : px_H) (o0 : Option Value) : px_run (px_mk (kX5_wordAt X)) 52 ([o0], [], (hp M J R 38 43 nL xs D)) =
    some (some (.ref 3), (hp M J R 38 43 nL xs D)) := (px_run_eq _ _ _).trans rfl
set_option maxRecDepth 40000 in
theorem eX5_wordAt_43_0 (X : px_X) (M : Nat → Nat → Int32) (J : Nat → Nat → Int64) (R : Nat → Nat → Option Nat) (nL : Nat) (xs : Nat → Int32) (D : px_H) (v0 : Int32) : px_run (px_mk (kX5_wordAt X)) 0 ([some (.int (v0))], [], (hp M J R 43 38 nL xs D)) =
    cond (decide (v0 = 0))
    (px_run (px_mk (kX5_wordAt X)) 52 ([some (.int (v0))], [], (hp M J R 43 38 nL xs D)))
    (cond (decide (v0 = 1))
    (px_run (px_mk (kX5_wordAt X)) 55 ([some (.int (v0))], [], (hp M J R 43 38 nL xs D)))
    (cond (decide (v0 = 2))
    (px_run (px_mk (kX5_wordAt X)) 58 ([some (.int (v0))], [], (hp M J R 43 38 nL xs D)))
    (cond (decide (v0 = 3))
    (px_run (px_mk (kX5_wordAt X)) 61 ([some (.int (v0))], [], (hp M J R 43 38 nL xs D)))
    (cond (decide (v0 = 4))
    (px_run (px_mk (kX5_wordAt X)) 64 ([some (.int (v0))], [], (hp M J R 43 38 nL xs D)))
    (cond (decide (v0 = 5))
    (px_run (px_mk (kX5_wordAt X)) 67 ([some (.int (v0))], [], (hp M J R 43 38 nL xs D)))
    (cond (decide (v0 = 6))
    (px_run (px_mk (kX5_wordAt X)) 70 ([some (.int (v0))], [], (hp M J R 43 38 nL xs D)))
    (cond (decide (v0 = 7))
    (px_run (px_mk (kX5_wordAt X)) 73 ([some (.int (v0))], [], (hp M J R 43 38 nL xs D)))
    (cond (decide (v0 = 8))
    (px_run (px_mk (kX5_wordAt X)) 76 ([some (.int (v0))], [], (hp M J R 43 38 nL xs D)))
    (px_run (px_mk (kX5_wordAt X)) 79 ([some (.int (v0))], [], (hp M J R 43 38 nL xs D))))))))))) := (px_run_eq _ _ _).trans rfl
set_option maxRecDepth 40000 in
theorem eX5_wordAt_43_79 (X : px_X) (M : Nat → Nat → Int32) (J : Nat → Nat → Int64) (R : Nat → Nat → Option Nat) (nL : Nat) (xs : Nat → Int32) (D : px_H) (o0 : Option Value) : px_run (px_mk (kX5_wordAt X)) 79 ([o0], [], (hp M J R 43 38 nL xs D)) =
    some (some (.ref 12), (hp M J R 43 38 nL xs D)) := (px_run_eq _ _ _).trans rfl
set_option maxRecDepth 40000 in
theorem eX5_wordAt_43_76 (X : px_X) (M : Nat → Nat → Int32) (J : Nat → Nat → Int64) (R : Nat → Nat → Option Nat) (nL : Nat) (xs : Nat → Int32) (D : px_H) (o0 : Option Value) : px_run (px_mk (kX5_wordAt X)) 76 ([o0], [], (hp M J R 43 38 nL xs D)) =
    some (some (.ref 11), (hp M J R 43 38 nL xs D)) := (px_run_eq _ _ _).trans rfl
set_option maxRecDepth 40000 in
theorem eX5_wordAt_43_73 (X : px_X) (M : Nat → Nat → Int32) (J : Nat → Nat → Int64) (R : Nat → Nat → Option Nat) (nL : Nat) (xs : Nat → Int32) (D : px_H) (o0 : Option Value) : px_run (px_mk (kX5_wordAt X)) 73 ([o0], [], (hp M J R 43 38 nL xs D)) =
    some (some (.ref 10), (hp M J R 43 38 nL xs D)) := (px_run_eq _ _ _).trans rfl
set_option maxRecDepth 40000 in
theorem eX5_wordAt_43_70 (X : px_X) (M : Nat → Nat → Int32) (J : Nat → Nat → Int64) (R : Nat → Nat → Option Nat) (nL : Nat) (xs : Nat → Int32) (D : px_H) (o0 : Option Value) : px_run (px_mk (kX5_wordAt X)) 70 ([o0], [], (hp M J R 43 38 nL xs D)) =
    some (some (.ref 9), (hp M J R 43 38 nL xs D)) := (px_run_eq _ _ _).trans rfl
set_option maxRecDepth 40000 in
theorem eX5_wordAt_43_67 (X : px_X) (M : Nat → Nat → Int32) (J : Nat → Nat → Int64) (R : Nat → Nat → Option Nat) (nL : Nat) (xs : Nat → Int32) (D : px_H) (o0 : Option Value) : px_run (px_mk (kX5_wordAt X)) 67 ([o0], [], (hp M J R 43 38 nL xs D)) =
    some (some (.ref 8), (hp M J R 43 38 nL xs D)) := (px_run_eq _ _ _).trans rfl
set_option maxRecDepth 40000 in
theorem eX5_wordAt_43_64 (X : px_X) (M : Nat → Nat → Int32) (J : Nat → Nat → Int64) (R : Nat → Nat → Option Nat) (nL : Nat) (xs : Nat → Int32) (D : px_H) (o0 : Option Value) : px_run (px_mk (kX5_wordAt X)) 64 ([o0], [], (hp M J R 43 38 nL xs D)) =
    some (some (.ref 7), (hp M J R 43 38 nL xs D)) := (px_run_eq _ _ _).trans rfl
set_option maxRecDepth 40000 in
theorem eX5_wordAt_43_61 (X : px_X) (M : Nat → Nat → Int32) (J : Nat → Nat → Int64) (R : Nat → Nat → Option Nat) (nL : Nat) (xs : Nat → Int32) (D : px_H) (o0 : Option Value) : px_run (px_mk (kX5_wordAt X)) 61 ([o0], [], (hp M J R 43 38 nL xs D)) =
    some (some (.ref 6), (hp M J R 43 38 nL xs D)) := (px_run_eq _ _ _).trans rfl
set_option maxRecDepth 40000 in
theorem eX5_wordAt_43_58 (X : px_X) (M : Nat → Nat → Int32) (J : Nat → Nat → Int64) (R : Nat → Nat → Option Nat) (nL : Nat) (xs : Nat → Int32) (D : px_H) (o0 : Option Value) : px_run (px_mk (kX5_wordAt X)) 58 ([o0], [], (hp M J R 43 38 nL xs D)) =
    some (some (.ref 5), (hp M J R 43 38 nL xs D)) := (px_run_eq _ _ _).trans rfl
set_option maxRecDepth 40000 in
theorem eX5_wordAt_43_55 (X : px_X) (M : Nat → Nat → Int32) (J : Nat → Nat → Int64) (R : Nat → Nat → Option Nat) (nL : Nat) (xs : Nat → Int32) (D : px_H) (o0 : Option Value) : px_run (px_mk (kX5_wordAt X)) 55 ([o0], [], (hp M J R 43 38 nL xs D)) =
    some (some (.ref 4), (hp M J R 43 38 nL xs D)) := (px_run_eq _ _ _).trans rfl
set_option maxRecDepth 40000 in
theorem eX5_wordAt_43_52 (X : px_X) (M : Nat → Nat → Int32) (J : Nat → Nat → Int64) (R : Nat → Nat → Option Nat) (nL : Nat) (xs : Nat → Int32) (D : px_H) (o0 : Option Value) : px_run (px_mk (kX5_wordAt X)) 52 ([o0], [], (hp M J R 43 38 nL xs D)) =
    some (some (.ref 3), (hp M J R 43 38 nL xs D)) := (px_run_eq _ _ _).trans rfl
