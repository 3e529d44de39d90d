/-! block equations over the fixed layout (written by wip/whole/seg.py) -/
set_option maxRecDepth 40000 in
theorem eX6_has_0 (X : px_X) (M : Nat → Nat → Int32) (J : Nat → Nat → Int64) (R : Nat → Nat → Option Nat) (c e : Nat) (nL : Nat) (xs : Nat → Int32) (D : px_H) (v1 : Int32) : px_run (px_mk (kX6_has X)) 0 ([some (.ref 59), some (.int (v1))], [], (hp M J R c e nL xs D)) =
    cond (decide (v1 < 0))
    (px_run (px_mk (kX6_has X)) 13 ([some (.ref 59), some (.int (v1))], [], (hp M J R c e nL xs D)))
    (cond (decide (4 ≤ v1))
    (px_run (px_mk (kX6_has X)) 13 ([some (.ref 59), some (.int (v1))], [], (hp M J R c e nL xs D)))
    (px_run (px_mk (kX6_has X)) 14 ([some (.ref 59), some (.int (v1))], [.int (1)], (hp M J R c e nL xs D)))) := (px_run_eq _ _ _).trans rfl
set_option maxRecDepth 40000 in
theorem eX6_has_13 (X : px_X) (M : Nat → Nat → Int32) (J : Nat → Nat → Int64) (R : Nat → Nat → Option Nat) (c e : Nat) (nL : Nat) (xs : Nat → Int32) (D : px_H) (o0 : Option Value) (o1 : Option Value) : px_run (px_mk (kX6_has X)) 13 ([o0, o1], [], (hp M J R c e nL xs D)) =
    px_run (px_mk (kX6_has X)) 14 ([none, none], [.int (0)], (hp M J R c e nL xs D)) := (px_run_eq _ _ _).trans rfl
set_option maxRecDepth 40000 in
theorem eX6_has_14 (X : px_X) (M : Nat → Nat → Int32) (J : Nat → Nat → Int64) (R : Nat → Nat → Option Nat) (c e : Nat) (nL : Nat) (xs : Nat → Int32) (D : px_H) (o0 : Option Value) (o1 : Option Value) (w0 : Int32) : px_run (px_mk (kX6_has X)) 14 ([o0, o1], [.int (w0)], (hp M J R c e nL xs D)) =
    cond (decide (w0 = 0) || decide (w0 = 1)) (some (some (.int (w0)), (hp M J R c e nL xs D))) none := (px_run_eq _ _ _).trans rfl
set_option maxRecDepth 40000 in
theorem eX6_make_0 (X : px_X) (M : Nat → Nat → Int32) (J : Nat → Nat → Int64) (R : Nat → Nat → Option Nat) (c e : Nat) (nL : Nat) (xs : Nat → Int32) (D : px_H) (v1 : Int32) (v2 : Int32) (v3 : Int32) : px_run (px_mk (kX6_make X)) 0 ([some (.ref 59), some (.int (v1)), some (.int (v2)), some (.int (v3)), none], [], (hp M J R c e nL xs D)) =
    px_bd (X 70 [.ref 59, .int (v1)] (hp M J R c e nL xs D))
    (fun v G1 => px_p (kX6_make X) 0 3 ([some (.ref 59), some (.int (v1)), some (.int (v2)), some (.int (v3)), none], px_psh v [], G1)) := (px_run_eq _ _ _).trans rfl
set_option maxRecDepth 40000 in
theorem eX6_make_0_3 (X : px_X) (M : Nat → Nat → Int32) (J : Nat → Nat → Int64) (R : Nat → Nat → Option Nat) (c e : Nat) (nL : Nat) (xs : Nat → Int32) (D : px_H) (v1 : Int32) (v2 : Int32) (v3 : Int32) (w0 : Int32) : px_p (kX6_make X) 0 3 ([some (.ref 59), some (.int (v1)), some (.int (v2)), some (.int (v3)), none], [.int (w0)], (hp M J R c e nL xs D)) =
    cond (decide (w0 = 0))
    (px_run (px_mk (kX6_make X)) 18 ([some (.ref 59), some (.int (v1)), some (.int (v2)), some (.int (v3)), none], [], (hp M J R c e nL xs D)))
    (cond (decide (v2 < (-1)))
    (px_run (px_mk (kX6_make X)) 18 ([some (.ref 59), some (.int (v1)), some (.int (v2)), some (.int (v3)), none], [], (hp M J R c e nL xs D)))
    (cond (decide (v2 ≤ 2))
    (px_run (px_mk (kX6_make X)) 21 ([some (.ref 59), some (.int (v1)), some (.int (v2)), some (.int (v3)), none], [], (hp M J R c e nL xs D)))
    (px_run (px_mk (kX6_make X)) 18 ([some (.ref 59), some (.int (v1)), some (.int (v2)), some (.int (v3)), none], [], (hp M J R c e nL xs D))))) := rfl
set_option maxRecDepth 40000 in
theorem eX6_make_18 (X : px_X) (M : Nat → Nat → Int32) (J : Nat → Nat → Int64) (R : Nat → Nat → Option Nat) (c e : Nat) (nL : Nat) (xs : Nat → Int32) (D : px_H) (o0 : Option Value) (o1 : Option Value) (o2 : Option Value) (o3 : Option Value) (o4 : Option Value) : px_run (px_mk (kX6_make X)) 18 ([o0, o1, o2, o3, o4], [], (hp M J R c e nL xs D)) =
    some (some (.int ((-2))), (hp M J R c e nL xs D)) := (px_run_eq _ _ _).trans rfl
set_option maxRecDepth 40000 in
theorem eX6_make_21 (X : px_X) (M : Nat → Nat → Int32) (J : Nat → Nat → Int64) (R : Nat → Nat → Option Nat) (c e : Nat) (nL : Nat) (xs : Nat → Int32) (D : px_H) (v1 : Int32) (v2 : Int32) (v3 : Int32) (o4 : Option Value) : px_run (px_mk (kX6_make X)) 21 ([some (.ref 59), some (.int (v1)), some (.int (v2)), some (.int (v3)), o4], [], (hp M J R c e nL xs D)) =
    cond (decide (¬ v2 = (-1)))
    (px_run (px_mk (kX6_make X)) 42 ([some (.ref 59), some (.int (v1)), some (.int (v2)), some (.int (v3)), none], [], (hp M J R c e nL xs D)))
    (cond (px_inb (v1) 4)
    (cond (px_inb (v1) 4)
    (some (some (.int (1)), (hp (px_uR (px_uR M 60 (upd (M 60) (Int32.toNatClampNeg (v1)) ((-1)))) 61 (upd (M 61) (Int32.toNatClampNeg (v1)) (0))) J R c e nL xs D))) none) none) := (px_run_eq _ _ _).trans rfl
set_option maxRecDepth 40000 in
theorem eX6_make_42 (X : px_X) (M : Nat → Nat → Int32) (J : Nat → Nat → Int64) (R : Nat → Nat → Option Nat) (c e : Nat) (nL : Nat) (xs : Nat → Int32) (D : px_H) (v1 : Int32) (v2 : Int32) (v3 : Int32) (o4 : Option Value) : px_run (px_mk (kX6_make X)) 42 ([some (.ref 59), some (.int (v1)), some (.int (v2)), some (.int (v3)), o4], [], (hp M J R c e nL xs D)) =
    cond (decide (v3 ≤ 40))
    (px_run (px_mk (kX6_make X)) 51 ([some (.ref 59), some (.int (v1)), some (.int (v2)), some (.int (v3)), none], [], (hp M J R c e nL xs D)))
    (some (some (.int ((-2))), (hp M J R c e nL xs D))) := (px_run_eq _ _ _).trans rfl
set_option maxRecDepth 40000 in
theorem eX6_make_51 (X : px_X) (M : Nat → Nat → Int32) (J : Nat → Nat → Int64) (R : Nat → Nat → Option Nat) (c e : Nat) (nL : Nat) (xs : Nat → Int32) (D : px_H) (v1 : Int32) (v2 : Int32) (v3 : Int32) (o4 : Option Value) : px_run (px_mk (kX6_make X)) 51 ([some (.ref 59), some (.int (v1)), some (.int (v2)), some (.int (v3)), o4], [], (hp M J R c e nL xs D)) =
    cond (decide (0 ≤ v3))
    (px_run (px_mk (kX6_make X)) 58 ([some (.ref 59), some (.int (v1)), some (.int (v2)), some (.int (v3)), none], [], (hp M J R c e nL xs D)))
    (some (some (.int ((-14))), (hp M J R c e nL xs D))) := (px_run_eq _ _ _).trans rfl
set_option maxRecDepth 40000 in
theorem eX6_make_58 (X : px_X) (M : Nat → Nat → Int32) (J : Nat → Nat → Int64) (R : Nat → Nat → Option Nat) (c e : Nat) (nL : Nat) (xs : Nat → Int32) (D : px_H) (v1 : Int32) (v2 : Int32) (v3 : Int32) (o4 : Option Value) : px_run (px_mk (kX6_make X)) 58 ([some (.ref 59), some (.int (v1)), some (.int (v2)), some (.int (v3)), o4], [], (hp M J R c e nL xs D)) =
    cond (px_inb (v1) 4)
    (cond (px_inb (v1) 4)
    (px_run (px_mk (kX6_make X)) 75 ([some (.ref 59), some (.int (v1)), some (.int (v2)), some (.int (v3)), some (.int (0))], [], (hp (px_uR (px_uR M 60 (upd (M 60) (Int32.toNatClampNeg (v1)) (v2))) 61 (upd (M 61) (Int32.toNatClampNeg (v1)) (v3))) J R c e nL xs D))) none) none := (px_run_eq _ _ _).trans rfl
set_option maxRecDepth 40000 in
theorem eX6_make_75 (X : px_X) (M : Nat → Nat → Int32) (J : Nat → Nat → Int64) (R : Nat → Nat → Option Nat) (c e : Nat) (nL : Nat) (xs : Nat → Int32) (D : px_H) (v1 : Int32) (o2 : Option Value) (v3 : Int32) (v4 : Int32) : px_run (px_mk (kX6_make X)) 75 ([some (.ref 59), some (.int (v1)), o2, some (.int (v3)), some (.int (v4))], [], (hp M J R c e nL xs D)) =
    cond (decide (v3 ≤ v4))
    (px_run (px_mk (kX6_make X)) 97 ([some (.ref 59), some (.int (v1)), none, some (.int (v3)), some (.int (v4))], [], (hp M J R c e nL xs D)))
    (cond (px_inb (v1) 4)
    (px_bo (px_items (Int32.toNatClampNeg (v1)))
    (none)
    (fun a => px_p (kX6_make X) 75 9 ([some (.ref 59), some (.int (v1)), none, some (.int (v3)), some (.int (v4))], [.int (0), .int (v4), .ref (a)], (hp M J R c e nL xs D)))) none) := (px_run_eq _ _ _).trans rfl
set_option maxRecDepth 40000 in
theorem eX6_make_97 (X : px_X) (M : Nat → Nat → Int32) (J : Nat → Nat → Int64) (R : Nat → Nat → Option Nat) (c e : Nat) (nL : Nat) (xs : Nat → Int32) (D : px_H) (o0 : Option Value) (o1 : Option Value) (o2 : Option Value) (o3 : Option Value) (o4 : Option Value) : px_run (px_mk (kX6_make X)) 97 ([o0, o1, o2, o3, o4], [], (hp M J R c e nL xs D)) =
    some (some (.int (1)), (hp M J R c e nL xs D)) := (px_run_eq _ _ _).trans rfl
set_option maxRecDepth 40000 in
theorem eX6_make_75_9 (X : px_X) (G : px_H) (v1 : Int32) (v3 : Int32) (v4 : Int32) (g0 : Nat) (w1 : Int32) (w2 : Int32) : px_p (kX6_make X) 75 9 ([some (.ref 59), some (.int (v1)), none, some (.int (v3)), some (.int (v4))], [.int (w2), .int (w1), .ref (g0)], G) =
    px_wb (px_pa G (g0) (w1) (w2)) (fun G1 => px_p (kX6_make X) 75 10 ([some (.ref 59), some (.int (v1)), none, some (.int (v3)), some (.int (v4))], [], G1)) := px_siast
set_option maxRecDepth 40000 in
theorem eX6_make_75_10 (X : px_X) (M : Nat → Nat → Int32) (J : Nat → Nat → Int64) (R : Nat → Nat → Option Nat) (c e : Nat) (nL : Nat) (xs : Nat → Int32) (D : px_H) (v1 : Int32) (v3 : Int32) (v4 : Int32) : px_p (kX6_make X) 75 10 ([some (.ref 59), some (.int (v1)), none, some (.int (v3)), some (.int (v4))], [], (hp M J R c e nL xs D)) =
    px_run (px_mk (kX6_make X)) 75 ([some (.ref 59), some (.int (v1)), none, some (.int (v3)), some (.int ((v4 + 1)))], [], (hp M J R c e nL xs D)) := rfl
set_option maxRecDepth 40000 in
theorem eX6_put_0 (X : px_X) (M : Nat → Nat → Int32) (J : Nat → Nat → Int64) (R : Nat → Nat → Option Nat) (c e : Nat) (nL : Nat) (xs : Nat → Int32) (D : px_H) (v1 : Int32) (v2 : Int32) (v3 : Int32) : px_run (px_mk (kX6_put X)) 0 ([some (.ref 59), some (.int (v1)), some (.int (v2)), some (.int (v3))], [], (hp M J R c e nL xs D)) =
    px_bd (X 70 [.ref 59, .int (v1)] (hp M J R c e nL xs D))
    (fun v G1 => px_p (kX6_put X) 0 3 ([some (.ref 59), some (.int (v1)), some (.int (v2)), some (.int (v3))], px_psh v [], G1)) := (px_run_eq _ _ _).trans rfl
set_option maxRecDepth 40000 in
theorem eX6_put_0_3 (X : px_X) (M : Nat → Nat → Int32) (J : Nat → Nat → Int64) (R : Nat → Nat → Option Nat) (c e : Nat) (nL : Nat) (xs : Nat → Int32) (D : px_H) (v1 : Int32) (v2 : Int32) (v3 : Int32) (w0 : Int32) : px_p (kX6_put X) 0 3 ([some (.ref 59), some (.int (v1)), some (.int (v2)), some (.int (v3))], [.int (w0)], (hp M J R c e nL xs D)) =
    cond (decide (w0 = 0))
    (px_run (px_mk (kX6_put X)) 20 ([some (.ref 59), some (.int (v1)), some (.int (v2)), some (.int (v3))], [], (hp M J R c e nL xs D)))
    (cond (decide (v3 < (-40000)))
    (px_run (px_mk (kX6_put X)) 20 ([some (.ref 59), some (.int (v1)), some (.int (v2)), some (.int (v3))], [], (hp M J R c e nL xs D)))
    (cond (decide (v3 ≤ 40000))
    (px_run (px_mk (kX6_put X)) 23 ([some (.ref 59), some (.int (v1)), some (.int (v2)), some (.int (v3))], [], (hp M J R c e nL xs D)))
    (px_run (px_mk (kX6_put X)) 20 ([some (.ref 59), some (.int (v1)), some (.int (v2)), some (.int (v3))], [], (hp M J R c e nL xs D))))) := rfl
set_option maxRecDepth 40000 in
theorem eX6_put_20 (X : px_X) (M : Nat → Nat → Int32) (J : Nat → Nat → Int64) (R : Nat → Nat → Option Nat) (c e : Nat) (nL : Nat) (xs : Nat → Int32) (D : px_H) (o0 : Option Value) (o1 : Option Value) (o2 : Option Value) (o3 : Option Value) : px_run (px_mk (kX6_put X)) 20 ([o0, o1, o2, o3], [], (hp M J R c e nL xs D)) =
    some (some (.int ((-2))), (hp M J R c e nL xs D)) := (px_run_eq _ _ _).trans rfl
set_option maxRecDepth 40000 in
theorem eX6_put_23 (X : px_X) (M : Nat → Nat → Int32) (J : Nat → Nat → Int64) (R : Nat → Nat → Option Nat) (c e : Nat) (nL : Nat) (xs : Nat → Int32) (D : px_H) (v1 : Int32) (v2 : Int32) (v3 : Int32) : px_run (px_mk (kX6_put X)) 23 ([some (.ref 59), some (.int (v1)), some (.int (v2)), some (.int (v3))], [], (hp M J R c e nL xs D)) =
    cond (px_inb (v1) 4)
    (cond (decide (¬ ((M 60) (Int32.toNatClampNeg (v1))) = (-1)))
    (px_run (px_mk (kX6_put X)) 36 ([some (.ref 59), some (.int (v1)), some (.int (v2)), some (.int (v3))], [], (hp M J R c e nL xs D)))
    (some (some (.int ((-11))), (hp M J R c e nL xs D)))) none := (px_run_eq _ _ _).trans rfl
set_option maxRecDepth 40000 in
theorem eX6_put_36 (X : px_X) (M : Nat → Nat → Int32) (J : Nat → Nat → Int64) (R : Nat → Nat → Option Nat) (c e : Nat) (nL : Nat) (xs : Nat → Int32) (D : px_H) (v1 : Int32) (v2 : Int32) (v3 : Int32) : px_run (px_mk (kX6_put X)) 36 ([some (.ref 59), some (.int (v1)), some (.int (v2)), some (.int (v3))], [], (hp M J R c e nL xs D)) =
    px_bd (X 76 [.ref 59, .int (v1), .int (v2)] (hp M J R c e nL xs D))
    (fun v G1 => px_p (kX6_put X) 36 4 ([some (.ref 59), some (.int (v1)), some (.int (v2)), some (.int (v3))], px_psh v [], G1)) := (px_run_eq _ _ _).trans rfl
set_option maxRecDepth 40000 in
theorem eX6_put_36_4 (X : px_X) (M : Nat → Nat → Int32) (J : Nat → Nat → Int64) (R : Nat → Nat → Option Nat) (c e : Nat) (nL : Nat) (xs : Nat → Int32) (D : px_H) (v1 : Int32) (v2 : Int32) (v3 : Int32) (w0 : Int32) : px_p (kX6_put X) 36 4 ([some (.ref 59), some (.int (v1)), some (.int (v2)), some (.int (v3))], [.int (w0)], (hp M J R c e nL xs D)) =
    cond (decide (¬ w0 = 0))
    (px_run (px_mk (kX6_put X)) 48 ([some (.ref 59), some (.int (v1)), some (.int (v2)), some (.int (v3))], [], (hp M J R c e nL xs D)))
    (some (some (.int ((-12))), (hp M J R c e nL xs D))) := rfl
set_option maxRecDepth 40000 in
theorem eX6_put_48 (X : px_X) (M : Nat → Nat → Int32) (J : Nat → Nat → Int64) (R : Nat → Nat → Option Nat) (c e : Nat) (nL : Nat) (xs : Nat → Int32) (D : px_H) (v1 : Int32) (v2 : Int32) (v3 : Int32) : px_run (px_mk (kX6_put X)) 48 ([some (.ref 59), some (.int (v1)), some (.int (v2)), some (.int (v3))], [], (hp M J R c e nL xs D)) =
    cond (px_inb (v1) 4)
    (px_bo (px_items (Int32.toNatClampNeg (v1)))
    (cond (px_inb (v1) 4)
    (px_bd (X 73 [.int (((M 60) (Int32.toNatClampNeg (v1)))), .int (v3)] (hp M J R c e nL xs D))
    (fun v G1 => px_p (kX6_put X) 48 11 ([some (.ref 59), some (.int (v1)), some (.int (v2)), some (.int (v3))], px_psh v [.int (v2), .null], G1))) none)
    (fun a => cond (px_inb (v1) 4)
    (px_bd (X 73 [.int (((M 60) (Int32.toNatClampNeg (v1)))), .int (v3)] (hp M J R c e nL xs D))
    (fun v G1 => px_p (kX6_put X) 48 11 ([some (.ref 59), some (.int (v1)), some (.int (v2)), some (.int (v3))], px_psh v [.int (v2), .ref (a)], G1))) none)) none := (px_run_eq _ _ _).trans rfl
set_option maxRecDepth 40000 in
theorem eX6_put_48_11 (X : px_X) (M : Nat → Nat → Int32) (J : Nat → Nat → Int64) (R : Nat → Nat → Option Nat) (c e : Nat) (nL : Nat) (xs : Nat → Int32) (D : px_H) (v1 : Int32) (v2 : Int32) (v3 : Int32) (w1 : Int32) (w2 : Int32) : px_p (kX6_put X) 48 11 ([some (.ref 59), some (.int (v1)), some (.int (v2)), some (.int (v3))], [.int (w2), .int (w1), .null], (hp M J R c e nL xs D)) =
    none := rfl
set_option maxRecDepth 40000 in
theorem eX6_put_48_11_b (X : px_X) (G : px_H) (v1 : Int32) (v2 : Int32) (v3 : Int32) (g0 : Nat) (w1 : Int32) (w2 : Int32) : px_p (kX6_put X) 48 11 ([some (.ref 59), some (.int (v1)), some (.int (v2)), some (.int (v3))], [.int (w2), .int (w1), .ref (g0)], G) =
    px_wb (px_pa G (g0) (w1) (w2)) (fun G1 => px_p (kX6_put X) 48 12 ([some (.ref 59), some (.int (v1)), some (.int (v2)), some (.int (v3))], [], G1)) := px_siast
set_option maxRecDepth 40000 in
theorem eX6_put_48_12 (X : px_X) (M : Nat → Nat → Int32) (J : Nat → Nat → Int64) (R : Nat → Nat → Option Nat) (c e : Nat) (nL : Nat) (xs : Nat → Int32) (D : px_H) (v1 : Int32) (v2 : Int32) (v3 : Int32) : px_p (kX6_put X) 48 12 ([some (.ref 59), some (.int (v1)), some (.int (v2)), some (.int (v3))], [], (hp M J R c e nL xs D)) =
    some (some (.int (1)), (hp M J R c e nL xs D)) := rfl
set_option maxRecDepth 40000 in
theorem eX6_cutTo_0 (X : px_X) (M : Nat → Nat → Int32) (J : Nat → Nat → Int64) (R : Nat → Nat → Option Nat) (c e : Nat) (nL : Nat) (xs : Nat → Int32) (D : px_H) (v0 : Int32) (v1 : Int32) : px_run (px_mk (kX6_cutTo X)) 0 ([some (.int (v0)), some (.int (v1))], [], (hp M J R c e nL xs D)) =
    cond (decide (v0 = 0))
    (px_run (px_mk (kX6_cutTo X)) 28 ([some (.int (v0)), some (.int (v1))], [], (hp M J R c e nL xs D)))
    (cond (decide (v0 = 1))
    (px_run (px_mk (kX6_cutTo X)) 31 ([some (.int (v0)), some (.int (v1))], [], (hp M J R c e nL xs D)))
    (px_run (px_mk (kX6_cutTo X)) 34 ([some (.int (v0)), some (.int (v1))], [], (hp M J R c e nL xs D)))) := (px_run_eq _ _ _).trans rfl
set_option maxRecDepth 40000 in
theorem eX6_cutTo_34 (X : px_X) (M : Nat → Nat → Int32) (J : Nat → Nat → Int64) (R : Nat → Nat → Option Nat) (c e : Nat) (nL : Nat) (xs : Nat → Int32) (D : px_H) (o0 : Option Value) (v1 : Int32) : px_run (px_mk (kX6_cutTo X)) 34 ([o0, some (.int (v1))], [], (hp M J R c e nL xs D)) =
    some (some (.int (v1)), (hp M J R c e nL xs D)) := (px_run_eq _ _ _).trans rfl
set_option maxRecDepth 40000 in
theorem eX6_cutTo_31 (X : px_X) (M : Nat → Nat → Int32) (J : Nat → Nat → Int64) (R : Nat → Nat → Option Nat) (c e : Nat) (nL : Nat) (xs : Nat → Int32) (D : px_H) (o0 : Option Value) (v1 : Int32) : px_run (px_mk (kX6_cutTo X)) 31 ([o0, some (.int (v1))], [], (hp M J R c e nL xs D)) =
    some (some (.int ((Int32.toInt16 v1).toInt32)), (hp M J R c e nL xs D)) := (px_run_eq _ _ _).trans rfl
set_option maxRecDepth 40000 in
theorem eX6_cutTo_28 (X : px_X) (M : Nat → Nat → Int32) (J : Nat → Nat → Int64) (R : Nat → Nat → Option Nat) (c e : Nat) (nL : Nat) (xs : Nat → Int32) (D : px_H) (o0 : Option Value) (v1 : Int32) : px_run (px_mk (kX6_cutTo X)) 28 ([o0, some (.int (v1))], [], (hp M J R c e nL xs D)) =
    some (some (.int ((Int32.toInt8 v1).toInt32)), (hp M J R c e nL xs D)) := (px_run_eq _ _ _).trans rfl
set_option maxRecDepth 40000 in
theorem eX6_wipe_0 (X : px_X) (M : Nat → Nat → Int32) (J : Nat → Nat → Int64) (R : Nat → Nat → Option Nat) (c e : Nat) (nL : Nat) (xs : Nat → Int32) (D : px_H) (v1 : Int32) (v2 : Int32) : px_run (px_mk (kX6_wipe X)) 0 ([some (.ref 59), some (.int (v1)), some (.int (v2)), none], [], (hp M J R c e nL xs D)) =
    px_bd (X 70 [.ref 59, .int (v1)] (hp M J R c e nL xs D))
    (fun v G1 => px_p (kX6_wipe X) 0 3 ([some (.ref 59), some (.int (v1)), some (.int (v2)), none], px_psh v [], G1)) := (px_run_eq _ _ _).trans rfl
set_option maxRecDepth 40000 in
theorem eX6_wipe_0_3 (X : px_X) (M : Nat → Nat → Int32) (J : Nat → Nat → Int64) (R : Nat → Nat → Option Nat) (c e : Nat) (nL : Nat) (xs : Nat → Int32) (D : px_H) (v1 : Int32) (v2 : Int32) (w0 : Int32) : px_p (kX6_wipe X) 0 3 ([some (.ref 59), some (.int (v1)), some (.int (v2)), none], [.int (w0)], (hp M J R c e nL xs D)) =
    cond (decide (¬ w0 = 0))
    (px_run (px_mk (kX6_wipe X)) 11 ([some (.ref 59), some (.int (v1)), some (.int (v2)), none], [], (hp M J R c e nL xs D)))
    (some (some (.int ((-2))), (hp M J R c e nL xs D))) := rfl
set_option maxRecDepth 40000 in
theorem eX6_wipe_11 (X : px_X) (M : Nat → Nat → Int32) (J : Nat → Nat → Int64) (R : Nat → Nat → Option Nat) (c e : Nat) (nL : Nat) (xs : Nat → Int32) (D : px_H) (v1 : Int32) (v2 : Int32) (o3 : Option Value) : px_run (px_mk (kX6_wipe X)) 11 ([some (.ref 59), some (.int (v1)), some (.int (v2)), o3], [], (hp M J R c e nL xs D)) =
    px_bd (X 75 [.ref 59, .int (v1)] (hp M J R c e nL xs D))
    (fun v G1 => px_p (kX6_wipe X) 11 3 ([some (.ref 59), some (.int (v1)), some (.int (v2)), none], px_psh v [], G1)) := (px_run_eq _ _ _).trans rfl
set_option maxRecDepth 40000 in
theorem eX6_wipe_11_3 (X : px_X) (M : Nat → Nat → Int32) (J : Nat → Nat → Int64) (R : Nat → Nat → Option Nat) (c e : Nat) (nL : Nat) (xs : Nat → Int32) (D : px_H) (v1 : Int32) (v2 : Int32) (w0 : Int32) : px_p (kX6_wipe X) 11 3 ([some (.ref 59), some (.int (v1)), some (.int (v2)), none], [.int (w0)], (hp M J R c e nL xs D)) =
    cond (decide (w0 = 0))
    (px_run (px_mk (kX6_wipe X)) 23 ([some (.ref 59), some (.int (v1)), some (.int (v2)), some (.int (w0))], [], (hp M J R c e nL xs D)))
    (some (some (.int (w0)), (hp M J R c e nL xs D))) := rfl
set_option maxRecDepth 40000 in
theorem eX6_wipe_23 (X : px_X) (M : Nat → Nat → Int32) (J : Nat → Nat → Int64) (R : Nat → Nat → Option Nat) (c e : Nat) (nL : Nat) (xs : Nat → Int32) (D : px_H) (v1 : Int32) (v2 : Int32) (o3 : Option Value) : px_run (px_mk (kX6_wipe X)) 23 ([some (.ref 59), some (.int (v1)), some (.int (v2)), o3], [], (hp M J R c e nL xs D)) =
    px_bd (X 76 [.ref 59, .int (v1), .int (v2)] (hp M J R c e nL xs D))
    (fun v G1 => px_p (kX6_wipe X) 23 4 ([some (.ref 59), some (.int (v1)), some (.int (v2)), none], px_psh v [], G1)) := (px_run_eq _ _ _).trans rfl
set_option maxRecDepth 40000 in
theorem eX6_wipe_23_4 (X : px_X) (M : Nat → Nat → Int32) (J : Nat → Nat → Int64) (R : Nat → Nat → Option Nat) (c e : Nat) (nL : Nat) (xs : Nat → Int32) (D : px_H) (v1 : Int32) (v2 : Int32) (w0 : Int32) : px_p (kX6_wipe X) 23 4 ([some (.ref 59), some (.int (v1)), some (.int (v2)), none], [.int (w0)], (hp M J R c e nL xs D)) =
    cond (decide (¬ w0 = 0))
    (px_run (px_mk (kX6_wipe X)) 35 ([some (.ref 59), some (.int (v1)), some (.int (v2)), none], [], (hp M J R c e nL xs D)))
    (some (some (.int ((-12))), (hp M J R c e nL xs D))) := rfl
set_option maxRecDepth 40000 in
theorem eX6_wipe_35 (X : px_X) (M : Nat → Nat → Int32) (J : Nat → Nat → Int64) (R : Nat → Nat → Option Nat) (c e : Nat) (nL : Nat) (xs : Nat → Int32) (D : px_H) (v1 : Int32) (v2 : Int32) (o3 : Option Value) : px_run (px_mk (kX6_wipe X)) 35 ([some (.ref 59), some (.int (v1)), some (.int (v2)), o3], [], (hp M J R c e nL xs D)) =
    cond (px_inb (v1) 4)
    (px_bo (px_items (Int32.toNatClampNeg (v1)))
    (none)
    (fun a => px_p (kX6_wipe X) 35 6 ([some (.ref 59), some (.int (v1)), some (.int (v2)), none], [.int (40001), .int (v2), .ref (a)], (hp M J R c e nL xs D)))) none := (px_run_eq _ _ _).trans rfl
set_option maxRecDepth 40000 in
theorem eX6_wipe_35_6 (X : px_X) (G : px_H) (v1 : Int32) (v2 : Int32) (g0 : Nat) (w1 : Int32) (w2 : Int32) : px_p (kX6_wipe X) 35 6 ([some (.ref 59), some (.int (v1)), some (.int (v2)), none], [.int (w2), .int (w1), .ref (g0)], G) =
    px_wb (px_pa G (g0) (w1) (w2)) (fun G1 => px_p (kX6_wipe X) 35 7 ([some (.ref 59), some (.int (v1)), some (.int (v2)), none], [], G1)) := px_siast
set_option maxRecDepth 40000 in
theorem eX6_wipe_35_7 (X : px_X) (M : Nat → Nat → Int32) (J : Nat → Nat → Int64) (R : Nat → Nat → Option Nat) (c e : Nat) (nL : Nat) (xs : Nat → Int32) (D : px_H) (v1 : Int32) (v2 : Int32) : px_p (kX6_wipe X) 35 7 ([some (.ref 59), some (.int (v1)), some (.int (v2)), none], [], (hp M J R c e nL xs D)) =
    some (some (.int (1)), (hp M J R c e nL xs D)) := rfl
set_option maxRecDepth 40000 in
theorem eX6_floatsRefusal_0 (X : px_X) (M : Nat → Nat → Int32) (J : Nat → Nat → Int64) (R : Nat → Nat → Option Nat) (c e : Nat) (nL : Nat) (xs : Nat → Int32) (D : px_H) (v1 : Int32) : px_run (px_mk (kX6_floatsRefusal X)) 0 ([some (.ref 59), some (.int (v1))], [], (hp M J R c e nL xs D)) =
    cond (px_inb (v1) 4)
    (cond (decide (¬ ((M 60) (Int32.toNatClampNeg (v1))) = (-1)))
    (px_run (px_mk (kX6_floatsRefusal X)) 13 ([some (.ref 59), some (.int (v1))], [], (hp M J R c e nL xs D)))
    (some (some (.int ((-11))), (hp M J R c e nL xs D)))) none := (px_run_eq _ _ _).trans rfl
set_option maxRecDepth 40000 in
theorem eX6_floatsRefusal_13 (X : px_X) (M : Nat → Nat → Int32) (J : Nat → Nat → Int64) (R : Nat → Nat → Option Nat) (c e : Nat) (nL : Nat) (xs : Nat → Int32) (D : px_H) (v1 : Int32) : px_run (px_mk (kX6_floatsRefusal X)) 13 ([some (.ref 59), some (.int (v1))], [], (hp M J R c e nL xs D)) =
    cond (px_inb (v1) 4)
    (cond (decide (¬ ((M 60) (Int32.toNatClampNeg (v1))) = 2))
    (px_run (px_mk (kX6_floatsRefusal X)) 27 ([some (.ref 59), some (.int (v1))], [], (hp M J R c e nL xs D)))
    (px_run (px_mk (kX6_floatsRefusal X)) 29 ([some (.ref 59), some (.int (v1))], [.int (0)], (hp M J R c e nL xs D)))) none := (px_run_eq _ _ _).trans rfl
set_option maxRecDepth 40000 in
theorem eX6_floatsRefusal_27 (X : px_X) (M : Nat → Nat → Int32) (J : Nat → Nat → Int64) (R : Nat → Nat → Option Nat) (c e : Nat) (nL : Nat) (xs : Nat → Int32) (D : px_H) (o0 : Option Value) (o1 : Option Value) : px_run (px_mk (kX6_floatsRefusal X)) 27 ([o0, o1], [], (hp M J R c e nL xs D)) =
    px_run (px_mk (kX6_floatsRefusal X)) 29 ([none, none], [.int ((-13))], (hp M J R c e nL xs D)) := (px_run_eq _ _ _).trans rfl
set_option maxRecDepth 40000 in
theorem eX6_floatsRefusal_29 (X : px_X) (M : Nat → Nat → Int32) (J : Nat → Nat → Int64) (R : Nat → Nat → Option Nat) (c e : Nat) (nL : Nat) (xs : Nat → Int32) (D : px_H) (o0 : Option Value) (o1 : Option Value) (w0 : Int32) : px_run (px_mk (kX6_floatsRefusal X)) 29 ([o0, o1], [.int (w0)], (hp M J R c e nL xs D)) =
    some (some (.int (w0)), (hp M J R c e nL xs D)) := (px_run_eq _ _ _).trans rfl
set_option maxRecDepth 40000 in
theorem eX6_holds_0 (X : px_X) (M : Nat → Nat → Int32) (J : Nat → Nat → Int64) (R : Nat → Nat → Option Nat) (c e : Nat) (nL : Nat) (xs : Nat → Int32) (D : px_H) (v1 : Int32) (v2 : Int32) : px_run (px_mk (kX6_holds X)) 0 ([some (.ref 59), some (.int (v1)), some (.int (v2))], [], (hp M J R c e nL xs D)) =
    cond (decide (v2 < 0))
    (px_run (px_mk (kX6_holds X)) 18 ([some (.ref 59), some (.int (v1)), some (.int (v2))], [], (hp M J R c e nL xs D)))
    (cond (px_inb (v1) 4)
    (cond (decide (((M 61) (Int32.toNatClampNeg (v1))) ≤ v2))
    (px_run (px_mk (kX6_holds X)) 18 ([some (.ref 59), some (.int (v1)), some (.int (v2))], [], (hp M J R c e nL xs D)))
    (px_run (px_mk (kX6_holds X)) 19 ([some (.ref 59), some (.int (v1)), some (.int (v2))], [.int (1)], (hp M J R c e nL xs D)))) none) := (px_run_eq _ _ _).trans rfl
set_option maxRecDepth 40000 in
theorem eX6_holds_18 (X : px_X) (M : Nat → Nat → Int32) (J : Nat → Nat → Int64) (R : Nat → Nat → Option Nat) (c e : Nat) (nL : Nat) (xs : Nat → Int32) (D : px_H) (o0 : Option Value) (o1 : Option Value) (o2 : Option Value) : px_run (px_mk (kX6_holds X)) 18 ([o0, o1, o2], [], (hp M J R c e nL xs D)) =
    px_run (px_mk (kX6_holds X)) 19 ([none, none, none], [.int (0)], (hp M J R c e nL xs D)) := (px_run_eq _ _ _).trans rfl
set_option maxRecDepth 40000 in
theorem eX6_holds_19 (X : px_X) (M : Nat → Nat → Int32) (J : Nat → Nat → Int64) (R : Nat → Nat → Option Nat) (c e : Nat) (nL : Nat) (xs : Nat → Int32) (D : px_H) (o0 : Option Value) (o1 : Option Value) (o2 : Option Value) (w0 : Int32) : px_run (px_mk (kX6_holds X)) 19 ([o0, o1, o2], [.int (w0)], (hp M J R c e nL xs D)) =
    cond (decide (w0 = 0) || decide (w0 = 1)) (some (some (.int (w0)), (hp M J R c e nL xs D))) none := (px_run_eq _ _ _).trans rfl
set_option maxRecDepth 40000 in
theorem eX6_isNumber_0 (X : px_X) (M : Nat → Nat → Int32) (J : Nat → Nat → Int64) (R : Nat → Nat → Option Nat) (c e : Nat) (nL : Nat) (xs : Nat → Int32) (D : px_H) (v1 : Int32) (v2 : Int32) : px_run (px_mk (kX6_isNumber X)) 0 ([some (.ref 59), some (.int (v1)), some (.int (v2))], [], (hp M J R c e nL xs D)) =
    cond (px_inb (v1) 4)
    (px_bo (px_items (Int32.toNatClampNeg (v1)))
    (none)
    (fun a => px_p (kX6_isNumber X) 0 5 ([some (.ref 59), some (.int (v1)), some (.int (v2))], [.int (v2), .ref (a)], (hp M J R c e nL xs D)))) none := (px_run_eq _ _ _).trans rfl
set_option maxRecDepth 40000 in
theorem eX6_isNumber_0_5 (X : px_X) (G : px_H) (v1 : Int32) (v2 : Int32) (g0 : Nat) (w1 : Int32) : px_p (kX6_isNumber X) 0 5 ([some (.ref 59), some (.int (v1)), some (.int (v2))], [.int (w1), .ref (g0)], G) =
    px_ib (px_ga G (g0) 0 (w1)) (fun v => px_p (kX6_isNumber X) 0 6 ([some (.ref 59), some (.int (v1)), some (.int (v2))], .int v :: [], G)) := px_siald
set_option maxRecDepth 40000 in
theorem eX6_isNumber_0_6 (X : px_X) (M : Nat → Nat → Int32) (J : Nat → Nat → Int64) (R : Nat → Nat → Option Nat) (c e : Nat) (nL : Nat) (xs : Nat → Int32) (D : px_H) (v1 : Int32) (v2 : Int32) (w0 : Int32) : px_p (kX6_isNumber X) 0 6 ([some (.ref 59), some (.int (v1)), some (.int (v2))], [.int (w0)], (hp M J R c e nL xs D)) =
    cond (decide (w0 = 40001))
    (px_run (px_mk (kX6_isNumber X)) 17 ([some (.ref 59), some (.int (v1)), some (.int (v2))], [], (hp M J R c e nL xs D)))
    (px_run (px_mk (kX6_isNumber X)) 18 ([some (.ref 59), some (.int (v1)), some (.int (v2))], [.int (1)], (hp M J R c e nL xs D))) := rfl
set_option maxRecDepth 40000 in
theorem eX6_isNumber_17 (X : px_X) (M : Nat → Nat → Int32) (J : Nat → Nat → Int64) (R : Nat → Nat → Option Nat) (c e : Nat) (nL : Nat) (xs : Nat → Int32) (D : px_H) (o0 : Option Value) (o1 : Option Value) (o2 : Option Value) : px_run (px_mk (kX6_isNumber X)) 17 ([o0, o1, o2], [], (hp M J R c e nL xs D)) =
    px_run (px_mk (kX6_isNumber X)) 18 ([none, none, none], [.int (0)], (hp M J R c e nL xs D)) := (px_run_eq _ _ _).trans rfl
set_option maxRecDepth 40000 in
theorem eX6_isNumber_18 (X : px_X) (M : Nat → Nat → Int32) (J : Nat → Nat → Int64) (R : Nat → Nat → Option Nat) (c e : Nat) (nL : Nat) (xs : Nat → Int32) (D : px_H) (o0 : Option Value) (o1 : Option Value) (o2 : Option Value) (w0 : Int32) : px_run (px_mk (kX6_isNumber X)) 18 ([o0, o1, o2], [.int (w0)], (hp M J R c e nL xs D)) =
    cond (decide (w0 = 0) || decide (w0 = 1)) (some (some (.int (w0)), (hp M J R c e nL xs D))) none := (px_run_eq _ _ _).trans rfl
set_option maxRecDepth 40000 in
theorem eX6_whole_0 (X : px_X) (M : Nat → Nat → Int32) (J : Nat → Nat → Int64) (R : Nat → Nat → Option Nat) (c e : Nat) (nL : Nat) (xs : Nat → Int32) (D : px_H) (v1 : Int32) (v2 : Int32) : px_run (px_mk (kX6_whole X)) 0 ([some (.ref 59), some (.int (v1)), some (.int (v2))], [], (hp M J R c e nL xs D)) =
    cond (px_inb (v1) 4)
    (px_bo (px_items (Int32.toNatClampNeg (v1)))
    (none)
    (fun a => px_p (kX6_whole X) 0 5 ([some (.ref 59), some (.int (v1)), some (.int (v2))], [.int (v2), .ref (a)], (hp M J R c e nL xs D)))) none := (px_run_eq _ _ _).trans rfl
set_option maxRecDepth 40000 in
theorem eX6_whole_0_5 (X : px_X) (G : px_H) (v1 : Int32) (v2 : Int32) (g0 : Nat) (w1 : Int32) : px_p (kX6_whole X) 0 5 ([some (.ref 59), some (.int (v1)), some (.int (v2))], [.int (w1), .ref (g0)], G) =
    px_ib (px_ga G (g0) 0 (w1)) (fun v => px_p (kX6_whole X) 0 6 ([some (.ref 59), some (.int (v1)), some (.int (v2))], .int v :: [], G)) := px_siald
set_option maxRecDepth 40000 in
theorem eX6_whole_0_6 (X : px_X) (M : Nat → Nat → Int32) (J : Nat → Nat → Int64) (R : Nat → Nat → Option Nat) (c e : Nat) (nL : Nat) (xs : Nat → Int32) (D : px_H) (v1 : Int32) (v2 : Int32) (w0 : Int32) : px_p (kX6_whole X) 0 6 ([some (.ref 59), some (.int (v1)), some (.int (v2))], [.int (w0)], (hp M J R c e nL xs D)) =
    some (some (.int ((w0 / 2))), (hp M J R c e nL xs D)) := rfl
