/-! block equations over the fixed layout (written by wip/whole/seg.py) -/
set_option maxRecDepth 40000 in
theorem eX10_findAt_0 (X : px_X) (M : Nat → Nat → Int32) (J : Nat → Nat → Int64) (R : Nat → Nat → Option Nat) (c e : Nat) (nL : Nat) (xs : Nat → Int32) (D : px_H) (v1 : Int32) : px_run (px_mk (kX10_findAt X)) 0 ([some (.ref 28), some (.int (v1))], [], (hp M J R c e nL xs D)) =
    cond (decide (v1 < 0))
    (px_run (px_mk (kX10_findAt X)) 21 ([some (.ref 28), some (.int (v1))], [], (hp M J R c e nL xs D)))
    (cond (decide (M 28 0 ≤ v1))
    (px_run (px_mk (kX10_findAt X)) 21 ([some (.ref 28), some (.int (v1))], [], (hp M J R c e nL xs D)))
    (cond (px_inb (v1) 20)
    (px_bo (R 29 (Int32.toNatClampNeg (v1)))
    (px_run (px_mk (kX10_findAt X)) 22 ([some (.ref 28), some (.int (v1))], [.null], (hp M J R c e nL xs D)))
    (fun a => px_run (px_mk (kX10_findAt X)) 22 ([some (.ref 28), some (.int (v1))], [.ref (a)], (hp M J R c e nL xs D)))) none)) := (px_run_eq _ _ _).trans rfl
set_option maxRecDepth 40000 in
theorem eX10_findAt_21 (X : px_X) (M : Nat → Nat → Int32) (J : Nat → Nat → Int64) (R : Nat → Nat → Option Nat) (c e : Nat) (nL : Nat) (xs : Nat → Int32) (D : px_H) (o0 : Option Value) (o1 : Option Value) : px_run (px_mk (kX10_findAt X)) 21 ([o0, o1], [], (hp M J R c e nL xs D)) =
    px_run (px_mk (kX10_findAt X)) 22 ([none, none], [.null], (hp M J R c e nL xs D)) := (px_run_eq _ _ _).trans rfl
set_option maxRecDepth 40000 in
theorem eX10_findAt_22 (X : px_X) (M : Nat → Nat → Int32) (J : Nat → Nat → Int64) (R : Nat → Nat → Option Nat) (c e : Nat) (nL : Nat) (xs : Nat → Int32) (D : px_H) (o0 : Option Value) (o1 : Option Value) : px_run (px_mk (kX10_findAt X)) 22 ([o0, o1], [.null], (hp M J R c e nL xs D)) =
    some (some (.null), (hp M J R c e nL xs D)) := (px_run_eq _ _ _).trans rfl
set_option maxRecDepth 40000 in
theorem eX10_findAt_22_b (X : px_X) (M : Nat → Nat → Int32) (J : Nat → Nat → Int64) (R : Nat → Nat → Option Nat) (c e : Nat) (nL : Nat) (xs : Nat → Int32) (D : px_H) (o0 : Option Value) (o1 : Option Value) (g0 : Nat) : px_run (px_mk (kX10_findAt X)) 22 ([o0, o1], [.ref (g0)], (hp M J R c e nL xs D)) =
    some (some (.ref (g0)), (hp M J R c e nL xs D)) := (px_run_eq _ _ _).trans rfl
set_option maxRecDepth 40000 in
theorem eX10_timberAt_0 (X : px_X) (M : Nat → Nat → Int32) (J : Nat → Nat → Int64) (R : Nat → Nat → Option Nat) (c e : Nat) (nL : Nat) (xs : Nat → Int32) (D : px_H) (v1 : Int32) : px_run (px_mk (kX10_timberAt X)) 0 ([some (.ref 28), some (.int (v1)), none], [], (hp M J R c e nL xs D)) =
    px_bd (X 111 [.ref 28, .int (v1)] (hp M J R c e nL xs D))
    (fun v G1 => px_p (kX10_timberAt X) 0 3 ([some (.ref 28), some (.int (v1)), none], px_psh v [], G1)) := (px_run_eq _ _ _).trans rfl
set_option maxRecDepth 40000 in
theorem eX10_timberAt_0_3 (X : px_X) (M : Nat → Nat → Int32) (J : Nat → Nat → Int64) (R : Nat → Nat → Option Nat) (c e : Nat) (nL : Nat) (xs : Nat → Int32) (D : px_H) (v1 : Int32) (g0 : Nat) : px_p (kX10_timberAt X) 0 3 ([some (.ref 28), some (.int (v1)), none], [.ref (g0)], (hp M J R c e nL xs D)) =
    px_p (kX10_timberAt X) 0 7 ([some (.ref 28), some (.int (v1)), some (.ref (g0))], [.ref (g0)], (hp M J R c e nL xs D)) := rfl
set_option maxRecDepth 40000 in
theorem eX10_timberAt_0_3_b (X : px_X) (M : Nat → Nat → Int32) (J : Nat → Nat → Int64) (R : Nat → Nat → Option Nat) (c e : Nat) (nL : Nat) (xs : Nat → Int32) (D : px_H) (v1 : Int32) : px_p (kX10_timberAt X) 0 3 ([some (.ref 28), some (.int (v1)), none], [.null], (hp M J R c e nL xs D)) =
    px_run (px_mk (kX10_timberAt X)) 22 ([some (.ref 28), some (.int (v1)), some (.null)], [], (hp M J R c e nL xs D)) := rfl
set_option maxRecDepth 40000 in
theorem eX10_timberAt_0_7 (X : px_X) (G : px_H) (v1 : Int32) (f2 : Nat) (g0 : Nat) : px_p (kX10_timberAt X) 0 7 ([some (.ref 28), some (.int (v1)), some (.ref (f2))], [.ref (g0)], G) =
    px_vb (px_gf G (g0) 2 0) (fun v => px_p (kX10_timberAt X) 0 8 ([some (.ref 28), some (.int (v1)), some (.ref (f2))], v :: [], G)) := px_sgetf
set_option maxRecDepth 40000 in
theorem eX10_timberAt_22 (X : px_X) (M : Nat → Nat → Int32) (J : Nat → Nat → Int64) (R : Nat → Nat → Option Nat) (c e : Nat) (nL : Nat) (xs : Nat → Int32) (D : px_H) (o0 : Option Value) (o1 : Option Value) (o2 : Option Value) : px_run (px_mk (kX10_timberAt X)) 22 ([o0, o1, o2], [], (hp M J R c e nL xs D)) =
    px_run (px_mk (kX10_timberAt X)) 23 ([none, none, none], [.null], (hp M J R c e nL xs D)) := (px_run_eq _ _ _).trans rfl
set_option maxRecDepth 40000 in
theorem eX10_timberAt_0_8 (X : px_X) (M : Nat → Nat → Int32) (J : Nat → Nat → Int64) (R : Nat → Nat → Option Nat) (c e : Nat) (nL : Nat) (xs : Nat → Int32) (D : px_H) (v1 : Int32) (f2 : Nat) (w0 : Int32) : px_p (kX10_timberAt X) 0 8 ([some (.ref 28), some (.int (v1)), some (.ref (f2))], [.int (w0)], (hp M J R c e nL xs D)) =
    cond (decide (¬ w0 = 1))
    (px_run (px_mk (kX10_timberAt X)) 22 ([some (.ref 28), some (.int (v1)), some (.ref (f2))], [], (hp M J R c e nL xs D)))
    (px_run (px_mk (kX10_timberAt X)) 23 ([some (.ref 28), some (.int (v1)), some (.ref (f2))], [.ref (f2)], (hp M J R c e nL xs D))) := rfl
set_option maxRecDepth 40000 in
theorem eX10_timberAt_23 (X : px_X) (M : Nat → Nat → Int32) (J : Nat → Nat → Int64) (R : Nat → Nat → Option Nat) (c e : Nat) (nL : Nat) (xs : Nat → Int32) (D : px_H) (o0 : Option Value) (o1 : Option Value) (o2 : Option Value) : px_run (px_mk (kX10_timberAt X)) 23 ([o0, o1, o2], [.null], (hp M J R c e nL xs D)) =
    some (some (.null), (hp M J R c e nL xs D)) := (px_run_eq _ _ _).trans rfl
set_option maxRecDepth 40000 in
theorem eX10_timberAt_23_b (X : px_X) (M : Nat → Nat → Int32) (J : Nat → Nat → Int64) (R : Nat → Nat → Option Nat) (c e : Nat) (nL : Nat) (xs : Nat → Int32) (D : px_H) (o0 : Option Value) (o1 : Option Value) (o2 : Option Value) (g0 : Nat) : px_run (px_mk (kX10_timberAt X)) 23 ([o0, o1, o2], [.ref (g0)], (hp M J R c e nL xs D)) =
    some (some (.ref (g0)), (hp M J R c e nL xs D)) := (px_run_eq _ _ _).trans rfl
set_option maxRecDepth 40000 in
theorem eX10_inField_0 (X : px_X) (M : Nat → Nat → Int32) (J : Nat → Nat → Int64) (R : Nat → Nat → Option Nat) (c e : Nat) (nL : Nat) (xs : Nat → Int32) (D : px_H)  : px_run (px_mk (kX10_inField X)) 0 ([some (.ref 28), none, none, none], [], (hp M J R c e nL xs D)) =
    px_run (px_mk (kX10_inField X)) 4 ([some (.ref 28), some (.int (0)), some (.int (0)), none], [], (hp M J R c e nL xs D)) := (px_run_eq _ _ _).trans rfl
set_option maxRecDepth 40000 in
theorem eX10_inField_4 (X : px_X) (M : Nat → Nat → Int32) (J : Nat → Nat → Int64) (R : Nat → Nat → Option Nat) (c e : Nat) (nL : Nat) (xs : Nat → Int32) (D : px_H) (v1 : Int32) (v2 : Int32) (o3 : Option Value) : px_run (px_mk (kX10_inField X)) 4 ([some (.ref 28), some (.int (v1)), some (.int (v2)), o3], [], (hp M J R c e nL xs D)) =
    cond (decide (M 28 0 ≤ v2))
    (px_run (px_mk (kX10_inField X)) 39 ([some (.ref 28), some (.int (v1)), some (.int (v2)), none], [], (hp M J R c e nL xs D)))
    (cond (px_inb (v2) 20)
    (px_bo (R 29 (Int32.toNatClampNeg (v2)))
    (px_run (px_mk (kX10_inField X)) 33 ([some (.ref 28), some (.int (v1)), some (.int (v2)), some (.null)], [], (hp M J R c e nL xs D)))
    (fun a => px_p (kX10_inField X) 4 12 ([some (.ref 28), some (.int (v1)), some (.int (v2)), some (.ref (a))], [.ref (a)], (hp M J R c e nL xs D)))) none) := (px_run_eq _ _ _).trans rfl
set_option maxRecDepth 40000 in
theorem eX10_inField_39 (X : px_X) (M : Nat → Nat → Int32) (J : Nat → Nat → Int64) (R : Nat → Nat → Option Nat) (c e : Nat) (nL : Nat) (xs : Nat → Int32) (D : px_H) (o0 : Option Value) (v1 : Int32) (o2 : Option Value) (o3 : Option Value) : px_run (px_mk (kX10_inField X)) 39 ([o0, some (.int (v1)), o2, o3], [], (hp M J R c e nL xs D)) =
    some (some (.int (v1)), (hp M J R c e nL xs D)) := (px_run_eq _ _ _).trans rfl
set_option maxRecDepth 40000 in
theorem eX10_inField_33 (X : px_X) (M : Nat → Nat → Int32) (J : Nat → Nat → Int64) (R : Nat → Nat → Option Nat) (c e : Nat) (nL : Nat) (xs : Nat → Int32) (D : px_H) (v1 : Int32) (v2 : Int32) (o3 : Option Value) : px_run (px_mk (kX10_inField X)) 33 ([some (.ref 28), some (.int (v1)), some (.int (v2)), o3], [], (hp M J R c e nL xs D)) =
    px_run (px_mk (kX10_inField X)) 4 ([some (.ref 28), some (.int (v1)), some (.int ((v2 + 1))), none], [], (hp M J R c e nL xs D)) := (px_run_eq _ _ _).trans rfl
set_option maxRecDepth 40000 in
theorem eX10_inField_4_12 (X : px_X) (G : px_H) (v1 : Int32) (v2 : Int32) (f3 : Nat) (g0 : Nat) : px_p (kX10_inField X) 4 12 ([some (.ref 28), some (.int (v1)), some (.int (v2)), some (.ref (f3))], [.ref (g0)], G) =
    px_vb (px_gf G (g0) 2 6) (fun v => px_p (kX10_inField X) 4 13 ([some (.ref 28), some (.int (v1)), some (.int (v2)), some (.ref (f3))], v :: [], G)) := px_sgetf
set_option maxRecDepth 40000 in
theorem eX10_inField_4_13 (X : px_X) (M : Nat → Nat → Int32) (J : Nat → Nat → Int64) (R : Nat → Nat → Option Nat) (c e : Nat) (nL : Nat) (xs : Nat → Int32) (D : px_H) (v1 : Int32) (v2 : Int32) (f3 : Nat) (w0 : Int32) : px_p (kX10_inField X) 4 13 ([some (.ref 28), some (.int (v1)), some (.int (v2)), some (.ref (f3))], [.int (w0)], (hp M J R c e nL xs D)) =
    cond (decide (w0 = 0))
    (px_run (px_mk (kX10_inField X)) 33 ([some (.ref 28), some (.int (v1)), some (.int (v2)), some (.ref (f3))], [], (hp M J R c e nL xs D)))
    (px_run (px_mk (kX10_inField X)) 33 ([some (.ref 28), some (.int ((v1 + 1))), some (.int (v2)), some (.ref (f3))], [], (hp M J R c e nL xs D))) := rfl
set_option maxRecDepth 40000 in
theorem eX10_addTank_0 (X : px_X) (M : Nat → Nat → Int32) (J : Nat → Nat → Int64) (R : Nat → Nat → Option Nat) (c e : Nat) (nL : Nat) (xs : Nat → Int32) (D : px_H) (v1 : Int32) (v2 : Int32) : px_run (px_mk (kX10_addTank X)) 0 ([some (.ref 28), some (.int (v1)), some (.int (v2))], [], (hp M J R c e nL xs D)) =
    cond (decide (v1 < 0))
    (px_run (px_mk (kX10_addTank X)) 21 ([some (.ref 28), some (.int (v1)), some (.int (v2))], [], (hp M J R c e nL xs D)))
    (cond (decide (6 ≤ v1))
    (px_run (px_mk (kX10_addTank X)) 21 ([some (.ref 28), some (.int (v1)), some (.int (v2))], [], (hp M J R c e nL xs D)))
    (cond (decide (v2 < 1))
    (px_run (px_mk (kX10_addTank X)) 21 ([some (.ref 28), some (.int (v1)), some (.int (v2))], [], (hp M J R c e nL xs D)))
    (cond (decide (v2 ≤ 40))
    (px_run (px_mk (kX10_addTank X)) 24 ([some (.ref 28), some (.int (v1)), some (.int (v2))], [], (hp M J R c e nL xs D)))
    (px_run (px_mk (kX10_addTank X)) 21 ([some (.ref 28), some (.int (v1)), some (.int (v2))], [], (hp M J R c e nL xs D)))))) := (px_run_eq _ _ _).trans rfl
set_option maxRecDepth 40000 in
theorem eX10_addTank_21 (X : px_X) (M : Nat → Nat → Int32) (J : Nat → Nat → Int64) (R : Nat → Nat → Option Nat) (c e : Nat) (nL : Nat) (xs : Nat → Int32) (D : px_H) (o0 : Option Value) (o1 : Option Value) (o2 : Option Value) : px_run (px_mk (kX10_addTank X)) 21 ([o0, o1, o2], [], (hp M J R c e nL xs D)) =
    some (some (.int ((-2))), (hp M J R c e nL xs D)) := (px_run_eq _ _ _).trans rfl
set_option maxRecDepth 40000 in
theorem eX10_addTank_24 (X : px_X) (M : Nat → Nat → Int32) (J : Nat → Nat → Int64) (R : Nat → Nat → Option Nat) (c e : Nat) (nL : Nat) (xs : Nat → Int32) (D : px_H) (v1 : Int32) (v2 : Int32) : px_run (px_mk (kX10_addTank X)) 24 ([some (.ref 28), some (.int (v1)), some (.int (v2))], [], (hp M J R c e nL xs D)) =
    cond (decide (M 28 1 < 6))
    (px_run (px_mk (kX10_addTank X)) 36 ([some (.ref 28), some (.int (v1)), some (.int (v2))], [], (hp M J R c e nL xs D)))
    (some (some (.int ((-4))), (hp M J R c e nL xs D))) := (px_run_eq _ _ _).trans rfl
set_option maxRecDepth 40000 in
theorem eX10_addTank_36 (X : px_X) (M : Nat → Nat → Int32) (J : Nat → Nat → Int64) (R : Nat → Nat → Option Nat) (c e : Nat) (nL : Nat) (xs : Nat → Int32) (D : px_H) (v1 : Int32) (v2 : Int32) : px_run (px_mk (kX10_addTank X)) 36 ([some (.ref 28), some (.int (v1)), some (.int (v2))], [], (hp M J R c e nL xs D)) =
    cond (px_inb (M 28 1) 6)
    (cond (px_inb (M 28 1) 6)
    (some (some (.int (((M 28 1 + 1) - 1))), (hp (px_uR (px_uR (px_uR M 30 (upd (M 30) (Int32.toNatClampNeg (M 28 1)) (v1))) 31 (upd (M 31) (Int32.toNatClampNeg (M 28 1)) (v2))) 28 (upd (M 28) 1 ((M 28 1 + 1)))) J R c e nL xs D))) none) none := (px_run_eq _ _ _).trans rfl
set_option maxRecDepth 40000 in
theorem eX10_hasTank_0 (X : px_X) (M : Nat → Nat → Int32) (J : Nat → Nat → Int64) (R : Nat → Nat → Option Nat) (c e : Nat) (nL : Nat) (xs : Nat → Int32) (D : px_H) (v1 : Int32) : px_run (px_mk (kX10_hasTank X)) 0 ([some (.ref 28), some (.int (v1))], [], (hp M J R c e nL xs D)) =
    cond (decide (v1 < 0))
    (px_run (px_mk (kX10_hasTank X)) 16 ([some (.ref 28), some (.int (v1))], [], (hp M J R c e nL xs D)))
    (cond (decide (M 28 1 ≤ v1))
    (px_run (px_mk (kX10_hasTank X)) 16 ([some (.ref 28), some (.int (v1))], [], (hp M J R c e nL xs D)))
    (px_run (px_mk (kX10_hasTank X)) 17 ([some (.ref 28), some (.int (v1))], [.int (1)], (hp M J R c e nL xs D)))) := (px_run_eq _ _ _).trans rfl
set_option maxRecDepth 40000 in
theorem eX10_hasTank_16 (X : px_X) (M : Nat → Nat → Int32) (J : Nat → Nat → Int64) (R : Nat → Nat → Option Nat) (c e : Nat) (nL : Nat) (xs : Nat → Int32) (D : px_H) (o0 : Option Value) (o1 : Option Value) : px_run (px_mk (kX10_hasTank X)) 16 ([o0, o1], [], (hp M J R c e nL xs D)) =
    px_run (px_mk (kX10_hasTank X)) 17 ([none, none], [.int (0)], (hp M J R c e nL xs D)) := (px_run_eq _ _ _).trans rfl
set_option maxRecDepth 40000 in
theorem eX10_hasTank_17 (X : px_X) (M : Nat → Nat → Int32) (J : Nat → Nat → Int64) (R : Nat → Nat → Option Nat) (c e : Nat) (nL : Nat) (xs : Nat → Int32) (D : px_H) (o0 : Option Value) (o1 : Option Value) (w0 : Int32) : px_run (px_mk (kX10_hasTank X)) 17 ([o0, o1], [.int (w0)], (hp M J R c e nL xs D)) =
    cond (decide (w0 = 0) || decide (w0 = 1)) (some (some (.int (w0)), (hp M J R c e nL xs D))) none := (px_run_eq _ _ _).trans rfl
set_option maxRecDepth 40000 in
theorem eX10_tankItem_0 (X : px_X) (M : Nat → Nat → Int32) (J : Nat → Nat → Int64) (R : Nat → Nat → Option Nat) (c e : Nat) (nL : Nat) (xs : Nat → Int32) (D : px_H) (v1 : Int32) (v2 : Int32) : px_run (px_mk (kX10_tankItem X)) 0 ([some (.ref 28), some (.int (v1)), some (.int (v2))], [], (hp M J R c e nL xs D)) =
    px_bd (X 115 [.ref 28, .int (v1)] (hp M J R c e nL xs D))
    (fun v G1 => px_p (kX10_tankItem X) 0 3 ([some (.ref 28), some (.int (v1)), some (.int (v2))], px_psh v [], G1)) := (px_run_eq _ _ _).trans rfl
set_option maxRecDepth 40000 in
theorem eX10_tankItem_0_3 (X : px_X) (M : Nat → Nat → Int32) (J : Nat → Nat → Int64) (R : Nat → Nat → Option Nat) (c e : Nat) (nL : Nat) (xs : Nat → Int32) (D : px_H) (v1 : Int32) (v2 : Int32) (w0 : Int32) : px_p (kX10_tankItem X) 0 3 ([some (.ref 28), some (.int (v1)), some (.int (v2))], [.int (w0)], (hp M J R c e nL xs D)) =
    cond (decide (¬ w0 = 0))
    (px_run (px_mk (kX10_tankItem X)) 11 ([some (.ref 28), some (.int (v1)), some (.int (v2))], [], (hp M J R c e nL xs D)))
    (some (some (.int ((-2))), (hp M J R c e nL xs D))) := rfl
set_option maxRecDepth 40000 in
theorem eX10_tankItem_11 (X : px_X) (M : Nat → Nat → Int32) (J : Nat → Nat → Int64) (R : Nat → Nat → Option Nat) (c e : Nat) (nL : Nat) (xs : Nat → Int32) (D : px_H) (v1 : Int32) (v2 : Int32) : px_run (px_mk (kX10_tankItem X)) 11 ([some (.ref 28), some (.int (v1)), some (.int (v2))], [], (hp M J R c e nL xs D)) =
    cond (decide (v2 = 0))
    (px_run (px_mk (kX10_tankItem X)) 44 ([some (.ref 28), some (.int (v1)), some (.int (v2))], [], (hp M J R c e nL xs D)))
    (cond (decide (v2 = 1))
    (px_run (px_mk (kX10_tankItem X)) 51 ([some (.ref 28), some (.int (v1)), some (.int (v2))], [], (hp M J R c e nL xs D)))
    (cond (decide (v2 = 2))
    (px_run (px_mk (kX10_tankItem X)) 58 ([some (.ref 28), some (.int (v1)), some (.int (v2))], [], (hp M J R c e nL xs D)))
    (cond (decide (v2 = 3))
    (px_run (px_mk (kX10_tankItem X)) 64 ([some (.ref 28), some (.int (v1)), some (.int (v2))], [], (hp M J R c e nL xs D)))
    (px_run (px_mk (kX10_tankItem X)) 70 ([some (.ref 28), some (.int (v1)), some (.int (v2))], [], (hp M J R c e nL xs D)))))) := (px_run_eq _ _ _).trans rfl
set_option maxRecDepth 40000 in
theorem eX10_tankItem_70 (X : px_X) (M : Nat → Nat → Int32) (J : Nat → Nat → Int64) (R : Nat → Nat → Option Nat) (c e : Nat) (nL : Nat) (xs : Nat → Int32) (D : px_H) (o0 : Option Value) (o1 : Option Value) (o2 : Option Value) : px_run (px_mk (kX10_tankItem X)) 70 ([o0, o1, o2], [], (hp M J R c e nL xs D)) =
    some (some (.int ((-2))), (hp M J R c e nL xs D)) := (px_run_eq _ _ _).trans rfl
set_option maxRecDepth 40000 in
theorem eX10_tankItem_64 (X : px_X) (M : Nat → Nat → Int32) (J : Nat → Nat → Int64) (R : Nat → Nat → Option Nat) (c e : Nat) (nL : Nat) (xs : Nat → Int32) (D : px_H) (v1 : Int32) (o2 : Option Value) : px_run (px_mk (kX10_tankItem X)) 64 ([some (.ref 28), some (.int (v1)), o2], [], (hp M J R c e nL xs D)) =
    px_bd (X 118 [.ref 28, .int (v1)] (hp M J R c e nL xs D))
    (fun v G1 => px_p (kX10_tankItem X) 64 3 ([some (.ref 28), some (.int (v1)), none], px_psh v [], G1)) := (px_run_eq _ _ _).trans rfl
set_option maxRecDepth 40000 in
theorem eX10_tankItem_58 (X : px_X) (M : Nat → Nat → Int32) (J : Nat → Nat → Int64) (R : Nat → Nat → Option Nat) (c e : Nat) (nL : Nat) (xs : Nat → Int32) (D : px_H) (v1 : Int32) (o2 : Option Value) : px_run (px_mk (kX10_tankItem X)) 58 ([some (.ref 28), some (.int (v1)), o2], [], (hp M J R c e nL xs D)) =
    px_bd (X 117 [.ref 28, .int (v1)] (hp M J R c e nL xs D))
    (fun v G1 => px_p (kX10_tankItem X) 58 3 ([some (.ref 28), some (.int (v1)), none], px_psh v [], G1)) := (px_run_eq _ _ _).trans rfl
set_option maxRecDepth 40000 in
theorem eX10_tankItem_51 (X : px_X) (M : Nat → Nat → Int32) (J : Nat → Nat → Int64) (R : Nat → Nat → Option Nat) (c e : Nat) (nL : Nat) (xs : Nat → Int32) (D : px_H) (v1 : Int32) (o2 : Option Value) : px_run (px_mk (kX10_tankItem X)) 51 ([some (.ref 28), some (.int (v1)), o2], [], (hp M J R c e nL xs D)) =
    cond (px_inb (v1) 6)
    (some (some (.int (((M 31) (Int32.toNatClampNeg (v1))))), (hp M J R c e nL xs D))) none := (px_run_eq _ _ _).trans rfl
set_option maxRecDepth 40000 in
theorem eX10_tankItem_44 (X : px_X) (M : Nat → Nat → Int32) (J : Nat → Nat → Int64) (R : Nat → Nat → Option Nat) (c e : Nat) (nL : Nat) (xs : Nat → Int32) (D : px_H) (v1 : Int32) (o2 : Option Value) : px_run (px_mk (kX10_tankItem X)) 44 ([some (.ref 28), some (.int (v1)), o2], [], (hp M J R c e nL xs D)) =
    cond (px_inb (v1) 6)
    (some (some (.int (((M 30) (Int32.toNatClampNeg (v1))))), (hp M J R c e nL xs D))) none := (px_run_eq _ _ _).trans rfl
set_option maxRecDepth 40000 in
theorem eX10_tankItem_64_3 (X : px_X) (M : Nat → Nat → Int32) (J : Nat → Nat → Int64) (R : Nat → Nat → Option Nat) (c e : Nat) (nL : Nat) (xs : Nat → Int32) (D : px_H) (v1 : Int32) (w0 : Int32) : px_p (kX10_tankItem X) 64 3 ([some (.ref 28), some (.int (v1)), none], [.int (w0)], (hp M J R c e nL xs D)) =
    some (some (.int (w0)), (hp M J R c e nL xs D)) := rfl
set_option maxRecDepth 40000 in
theorem eX10_tankItem_58_3 (X : px_X) (M : Nat → Nat → Int32) (J : Nat → Nat → Int64) (R : Nat → Nat → Option Nat) (c e : Nat) (nL : Nat) (xs : Nat → Int32) (D : px_H) (v1 : Int32) (w0 : Int32) : px_p (kX10_tankItem X) 58 3 ([some (.ref 28), some (.int (v1)), none], [.int (w0)], (hp M J R c e nL xs D)) =
    some (some (.int (w0)), (hp M J R c e nL xs D)) := rfl
set_option maxRecDepth 40000 in
theorem eX10_sizesIn_0 (X : px_X) (M : Nat → Nat → Int32) (J : Nat → Nat → Int64) (R : Nat → Nat → Option Nat) (c e : Nat) (nL : Nat) (xs : Nat → Int32) (D : px_H) (v1 : Int32) : px_run (px_mk (kX10_sizesIn X)) 0 ([some (.ref 28), some (.int (v1)), none, none, none], [], (hp M J R c e nL xs D)) =
    px_run (px_mk (kX10_sizesIn X)) 4 ([some (.ref 28), some (.int (v1)), some (.int (0)), some (.int (0)), none], [], (hp M J R c e nL xs D)) := (px_run_eq _ _ _).trans rfl
set_option maxRecDepth 40000 in
theorem eX10_sizesIn_4 (X : px_X) (M : Nat → Nat → Int32) (J : Nat → Nat → Int64) (R : Nat → Nat → Option Nat) (c e : Nat) (nL : Nat) (xs : Nat → Int32) (D : px_H) (v1 : Int32) (v2 : Int32) (v3 : Int32) (o4 : Option Value) : px_run (px_mk (kX10_sizesIn X)) 4 ([some (.ref 28), some (.int (v1)), some (.int (v2)), some (.int (v3)), o4], [], (hp M J R c e nL xs D)) =
    cond (decide (M 28 0 ≤ v3))
    (px_run (px_mk (kX10_sizesIn X)) 48 ([some (.ref 28), some (.int (v1)), some (.int (v2)), some (.int (v3)), none], [], (hp M J R c e nL xs D)))
    (cond (px_inb (v3) 20)
    (px_bo (R 29 (Int32.toNatClampNeg (v3)))
    (px_run (px_mk (kX10_sizesIn X)) 42 ([some (.ref 28), some (.int (v1)), some (.int (v2)), some (.int (v3)), some (.null)], [], (hp M J R c e nL xs D)))
    (fun a => px_p (kX10_sizesIn X) 4 12 ([some (.ref 28), some (.int (v1)), some (.int (v2)), some (.int (v3)), some (.ref (a))], [.ref (a)], (hp M J R c e nL xs D)))) none) := (px_run_eq _ _ _).trans rfl
set_option maxRecDepth 40000 in
theorem eX10_sizesIn_48 (X : px_X) (M : Nat → Nat → Int32) (J : Nat → Nat → Int64) (R : Nat → Nat → Option Nat) (c e : Nat) (nL : Nat) (xs : Nat → Int32) (D : px_H) (o0 : Option Value) (o1 : Option Value) (v2 : Int32) (o3 : Option Value) (o4 : Option Value) : px_run (px_mk (kX10_sizesIn X)) 48 ([o0, o1, some (.int (v2)), o3, o4], [], (hp M J R c e nL xs D)) =
    some (some (.int (v2)), (hp M J R c e nL xs D)) := (px_run_eq _ _ _).trans rfl
set_option maxRecDepth 40000 in
theorem eX10_sizesIn_42 (X : px_X) (M : Nat → Nat → Int32) (J : Nat → Nat → Int64) (R : Nat → Nat → Option Nat) (c e : Nat) (nL : Nat) (xs : Nat → Int32) (D : px_H) (v1 : Int32) (v2 : Int32) (v3 : Int32) (o4 : Option Value) : px_run (px_mk (kX10_sizesIn X)) 42 ([some (.ref 28), some (.int (v1)), some (.int (v2)), some (.int (v3)), o4], [], (hp M J R c e nL xs D)) =
    px_run (px_mk (kX10_sizesIn X)) 4 ([some (.ref 28), some (.int (v1)), some (.int (v2)), some (.int ((v3 + 1))), none], [], (hp M J R c e nL xs D)) := (px_run_eq _ _ _).trans rfl
set_option maxRecDepth 40000 in
theorem eX10_sizesIn_4_12 (X : px_X) (G : px_H) (v1 : Int32) (v2 : Int32) (v3 : Int32) (f4 : Nat) (g0 : Nat) : px_p (kX10_sizesIn X) 4 12 ([some (.ref 28), some (.int (v1)), some (.int (v2)), some (.int (v3)), some (.ref (f4))], [.ref (g0)], G) =
    px_vb (px_gf G (g0) 2 7) (fun v => px_p (kX10_sizesIn X) 4 13 ([some (.ref 28), some (.int (v1)), some (.int (v2)), some (.int (v3)), some (.ref (f4))], v :: [], G)) := px_sgetf
set_option maxRecDepth 40000 in
theorem eX10_sizesIn_4_13 (X : px_X) (M : Nat → Nat → Int32) (J : Nat → Nat → Int64) (R : Nat → Nat → Option Nat) (c e : Nat) (nL : Nat) (xs : Nat → Int32) (D : px_H) (v1 : Int32) (v2 : Int32) (v3 : Int32) (f4 : Nat) (w0 : Int32) : px_p (kX10_sizesIn X) 4 13 ([some (.ref 28), some (.int (v1)), some (.int (v2)), some (.int (v3)), some (.ref (f4))], [.int (w0)], (hp M J R c e nL xs D)) =
    cond (decide (¬ w0 = v1))
    (px_run (px_mk (kX10_sizesIn X)) 42 ([some (.ref 28), some (.int (v1)), some (.int (v2)), some (.int (v3)), some (.ref (f4))], [], (hp M J R c e nL xs D)))
    (px_p (kX10_sizesIn X) 4 17 ([some (.ref 28), some (.int (v1)), some (.int (v2)), some (.int (v3)), some (.ref (f4))], [.ref (f4), .int (v2)], (hp M J R c e nL xs D))) := rfl
set_option maxRecDepth 40000 in
theorem eX10_sizesIn_4_17 (X : px_X) (G : px_H) (v1 : Int32) (v2 : Int32) (v3 : Int32) (f4 : Nat) (w0 : Int32) (g1 : Nat) : px_p (kX10_sizesIn X) 4 17 ([some (.ref 28), some (.int (v1)), some (.int (v2)), some (.int (v3)), some (.ref (f4))], [.ref (g1), .int (w0)], G) =
    px_vb (px_gf G (g1) 2 3) (fun v => px_p (kX10_sizesIn X) 4 18 ([some (.ref 28), some (.int (v1)), some (.int (v2)), some (.int (v3)), some (.ref (f4))], v :: [.int (w0)], G)) := px_sgetf
set_option maxRecDepth 40000 in
theorem eX10_sizesIn_4_18 (X : px_X) (M : Nat → Nat → Int32) (J : Nat → Nat → Int64) (R : Nat → Nat → Option Nat) (c e : Nat) (nL : Nat) (xs : Nat → Int32) (D : px_H) (v1 : Int32) (v2 : Int32) (v3 : Int32) (f4 : Nat) (w0 : Int32) (w1 : Int32) : px_p (kX10_sizesIn X) 4 18 ([some (.ref 28), some (.int (v1)), some (.int (v2)), some (.int (v3)), some (.ref (f4))], [.int (w1), .int (w0)], (hp M J R c e nL xs D)) =
    px_run (px_mk (kX10_sizesIn X)) 42 ([some (.ref 28), some (.int (v1)), some (.int ((w0 + w1))), some (.int (v3)), some (.ref (f4))], [], (hp M J R c e nL xs D)) := rfl
set_option maxRecDepth 40000 in
theorem eX10_findsIn_0 (X : px_X) (M : Nat → Nat → Int32) (J : Nat → Nat → Int64) (R : Nat → Nat → Option Nat) (c e : Nat) (nL : Nat) (xs : Nat → Int32) (D : px_H) (v1 : Int32) : px_run (px_mk (kX10_findsIn X)) 0 ([some (.ref 28), some (.int (v1)), none, none, none], [], (hp M J R c e nL xs D)) =
    px_run (px_mk (kX10_findsIn X)) 4 ([some (.ref 28), some (.int (v1)), some (.int (0)), some (.int (0)), none], [], (hp M J R c e nL xs D)) := (px_run_eq _ _ _).trans rfl
set_option maxRecDepth 40000 in
theorem eX10_findsIn_4 (X : px_X) (M : Nat → Nat → Int32) (J : Nat → Nat → Int64) (R : Nat → Nat → Option Nat) (c e : Nat) (nL : Nat) (xs : Nat → Int32) (D : px_H) (v1 : Int32) (v2 : Int32) (v3 : Int32) (o4 : Option Value) : px_run (px_mk (kX10_findsIn X)) 4 ([some (.ref 28), some (.int (v1)), some (.int (v2)), some (.int (v3)), o4], [], (hp M J R c e nL xs D)) =
    cond (decide (M 28 0 ≤ v3))
    (px_run (px_mk (kX10_findsIn X)) 43 ([some (.ref 28), some (.int (v1)), some (.int (v2)), some (.int (v3)), none], [], (hp M J R c e nL xs D)))
    (cond (px_inb (v3) 20)
    (px_bo (R 29 (Int32.toNatClampNeg (v3)))
    (px_run (px_mk (kX10_findsIn X)) 37 ([some (.ref 28), some (.int (v1)), some (.int (v2)), some (.int (v3)), some (.null)], [], (hp M J R c e nL xs D)))
    (fun a => px_p (kX10_findsIn X) 4 12 ([some (.ref 28), some (.int (v1)), some (.int (v2)), some (.int (v3)), some (.ref (a))], [.ref (a)], (hp M J R c e nL xs D)))) none) := (px_run_eq _ _ _).trans rfl
set_option maxRecDepth 40000 in
theorem eX10_findsIn_43 (X : px_X) (M : Nat → Nat → Int32) (J : Nat → Nat → Int64) (R : Nat → Nat → Option Nat) (c e : Nat) (nL : Nat) (xs : Nat → Int32) (D : px_H) (o0 : Option Value) (o1 : Option Value) (v2 : Int32) (o3 : Option Value) (o4 : Option Value) : px_run (px_mk (kX10_findsIn X)) 43 ([o0, o1, some (.int (v2)), o3, o4], [], (hp M J R c e nL xs D)) =
    some (some (.int (v2)), (hp M J R c e nL xs D)) := (px_run_eq _ _ _).trans rfl
set_option maxRecDepth 40000 in
theorem eX10_findsIn_37 (X : px_X) (M : Nat → Nat → Int32) (J : Nat → Nat → Int64) (R : Nat → Nat → Option Nat) (c e : Nat) (nL : Nat) (xs : Nat → Int32) (D : px_H) (v1 : Int32) (v2 : Int32) (v3 : Int32) (o4 : Option Value) : px_run (px_mk (kX10_findsIn X)) 37 ([some (.ref 28), some (.int (v1)), some (.int (v2)), some (.int (v3)), o4], [], (hp M J R c e nL xs D)) =
    px_run (px_mk (kX10_findsIn X)) 4 ([some (.ref 28), some (.int (v1)), some (.int (v2)), some (.int ((v3 + 1))), none], [], (hp M J R c e nL xs D)) := (px_run_eq _ _ _).trans rfl
set_option maxRecDepth 40000 in
theorem eX10_findsIn_4_12 (X : px_X) (G : px_H) (v1 : Int32) (v2 : Int32) (v3 : Int32) (f4 : Nat) (g0 : Nat) : px_p (kX10_findsIn X) 4 12 ([some (.ref 28), some (.int (v1)), some (.int (v2)), some (.int (v3)), some (.ref (f4))], [.ref (g0)], G) =
    px_vb (px_gf G (g0) 2 7) (fun v => px_p (kX10_findsIn X) 4 13 ([some (.ref 28), some (.int (v1)), some (.int (v2)), some (.int (v3)), some (.ref (f4))], v :: [], G)) := px_sgetf
set_option maxRecDepth 40000 in
theorem eX10_findsIn_4_13 (X : px_X) (M : Nat → Nat → Int32) (J : Nat → Nat → Int64) (R : Nat → Nat → Option Nat) (c e : Nat) (nL : Nat) (xs : Nat → Int32) (D : px_H) (v1 : Int32) (v2 : Int32) (v3 : Int32) (f4 : Nat) (w0 : Int32) : px_p (kX10_findsIn X) 4 13 ([some (.ref 28), some (.int (v1)), some (.int (v2)), some (.int (v3)), some (.ref (f4))], [.int (w0)], (hp M J R c e nL xs D)) =
    cond (decide (¬ w0 = v1))
    (px_run (px_mk (kX10_findsIn X)) 37 ([some (.ref 28), some (.int (v1)), some (.int (v2)), some (.int (v3)), some (.ref (f4))], [], (hp M J R c e nL xs D)))
    (px_run (px_mk (kX10_findsIn X)) 37 ([some (.ref 28), some (.int (v1)), some (.int ((v2 + 1))), some (.int (v3)), some (.ref (f4))], [], (hp M J R c e nL xs D))) := rfl
set_option maxRecDepth 40000 in
theorem eX10_refusal_0 (X : px_X) (M : Nat → Nat → Int32) (J : Nat → Nat → Int64) (R : Nat → Nat → Option Nat) (c e : Nat) (nL : Nat) (xs : Nat → Int32) (D : px_H) (f1 : Nat) (v2 : Int32) : px_run (px_mk (kX10_refusal X)) 0 ([some (.ref 28), some (.ref (f1)), some (.int (v2))], [], (hp M J R c e nL xs D)) =
    px_p (kX10_refusal X) 0 1 ([some (.ref 28), some (.ref (f1)), some (.int (v2))], [.ref (f1)], (hp M J R c e nL xs D)) := (px_run_eq _ _ _).trans rfl
set_option maxRecDepth 40000 in
theorem eX10_refusal_0_1 (X : px_X) (G : px_H) (f1 : Nat) (v2 : Int32) (g0 : Nat) : px_p (kX10_refusal X) 0 1 ([some (.ref 28), some (.ref (f1)), some (.int (v2))], [.ref (g0)], G) =
    px_vb (px_gf G (g0) 2 6) (fun v => px_p (kX10_refusal X) 0 2 ([some (.ref 28), some (.ref (f1)), some (.int (v2))], v :: [], G)) := px_sgetf
set_option maxRecDepth 40000 in
theorem eX10_refusal_0_2 (X : px_X) (M : Nat → Nat → Int32) (J : Nat → Nat → Int64) (R : Nat → Nat → Option Nat) (c e : Nat) (nL : Nat) (xs : Nat → Int32) (D : px_H) (f1 : Nat) (v2 : Int32) (w0 : Int32) : px_p (kX10_refusal X) 0 2 ([some (.ref 28), some (.ref (f1)), some (.int (v2))], [.int (w0)], (hp M J R c e nL xs D)) =
    cond (decide (¬ w0 = 0))
    (px_run (px_mk (kX10_refusal X)) 9 ([some (.ref 28), some (.ref (f1)), some (.int (v2))], [], (hp M J R c e nL xs D)))
    (some (some (.int (1)), (hp M J R c e nL xs D))) := rfl
set_option maxRecDepth 40000 in
theorem eX10_refusal_9 (X : px_X) (M : Nat → Nat → Int32) (J : Nat → Nat → Int64) (R : Nat → Nat → Option Nat) (c e : Nat) (nL : Nat) (xs : Nat → Int32) (D : px_H) (f1 : Nat) (v2 : Int32) : px_run (px_mk (kX10_refusal X)) 9 ([some (.ref 28), some (.ref (f1)), some (.int (v2))], [], (hp M J R c e nL xs D)) =
    cond (px_inb (v2) 6)
    (px_p (kX10_refusal X) 9 5 ([some (.ref 28), some (.ref (f1)), some (.int (v2))], [.int (((M 30) (Int32.toNatClampNeg (v2)))), .ref (f1)], (hp M J R c e nL xs D))) none := (px_run_eq _ _ _).trans rfl
set_option maxRecDepth 40000 in
theorem eX10_refusal_9_5 (X : px_X) (G : px_H) (f1 : Nat) (v2 : Int32) (g0 : Nat) (w1 : Int32) : px_p (kX10_refusal X) 9 5 ([some (.ref 28), some (.ref (f1)), some (.int (v2))], [.int (w1), .ref (g0)], G) =
    cond (px_isc G (g0) 2)
    (px_bd (X 24 [.ref (g0), .int (w1)] G)
    (fun v G1 => px_p (kX10_refusal X) 9 6 ([some (.ref 28), some (.ref (f1)), some (.int (v2))], px_psh v [], G1))) none := px_scallV rfl rfl rfl rfl
set_option maxRecDepth 40000 in
theorem eX10_refusal_9_6 (X : px_X) (M : Nat → Nat → Int32) (J : Nat → Nat → Int64) (R : Nat → Nat → Option Nat) (c e : Nat) (nL : Nat) (xs : Nat → Int32) (D : px_H) (f1 : Nat) (v2 : Int32) (w0 : Int32) : px_p (kX10_refusal X) 9 6 ([some (.ref 28), some (.ref (f1)), some (.int (v2))], [.int (w0)], (hp M J R c e nL xs D)) =
    cond (decide (¬ w0 = 0))
    (px_run (px_mk (kX10_refusal X)) 24 ([some (.ref 28), some (.ref (f1)), some (.int (v2))], [], (hp M J R c e nL xs D)))
    (some (some (.int (2)), (hp M J R c e nL xs D))) := rfl
set_option maxRecDepth 40000 in
theorem eX10_refusal_24 (X : px_X) (M : Nat → Nat → Int32) (J : Nat → Nat → Int64) (R : Nat → Nat → Option Nat) (c e : Nat) (nL : Nat) (xs : Nat → Int32) (D : px_H) (f1 : Nat) (v2 : Int32) : px_run (px_mk (kX10_refusal X)) 24 ([some (.ref 28), some (.ref (f1)), some (.int (v2))], [], (hp M J R c e nL xs D)) =
    px_bd (X 117 [.ref 28, .int (v2)] (hp M J R c e nL xs D))
    (fun v G1 => px_p (kX10_refusal X) 24 3 ([some (.ref 28), some (.ref (f1)), some (.int (v2))], px_psh v [], G1)) := (px_run_eq _ _ _).trans rfl
set_option maxRecDepth 40000 in
theorem eX10_refusal_24_3 (X : px_X) (M : Nat → Nat → Int32) (J : Nat → Nat → Int64) (R : Nat → Nat → Option Nat) (c e : Nat) (nL : Nat) (xs : Nat → Int32) (D : px_H) (f1 : Nat) (v2 : Int32) (w0 : Int32) : px_p (kX10_refusal X) 24 3 ([some (.ref 28), some (.ref (f1)), some (.int (v2))], [.int (w0)], (hp M J R c e nL xs D)) =
    px_p (kX10_refusal X) 24 4 ([some (.ref 28), some (.ref (f1)), some (.int (v2))], [.ref (f1), .int (w0)], (hp M J R c e nL xs D)) := rfl
set_option maxRecDepth 40000 in
theorem eX10_refusal_24_4 (X : px_X) (G : px_H) (f1 : Nat) (v2 : Int32) (w0 : Int32) (g1 : Nat) : px_p (kX10_refusal X) 24 4 ([some (.ref 28), some (.ref (f1)), some (.int (v2))], [.ref (g1), .int (w0)], G) =
    px_vb (px_gf G (g1) 2 3) (fun v => px_p (kX10_refusal X) 24 5 ([some (.ref 28), some (.ref (f1)), some (.int (v2))], v :: [.int (w0)], G)) := px_sgetf
set_option maxRecDepth 40000 in
theorem eX10_refusal_24_5 (X : px_X) (M : Nat → Nat → Int32) (J : Nat → Nat → Int64) (R : Nat → Nat → Option Nat) (c e : Nat) (nL : Nat) (xs : Nat → Int32) (D : px_H) (f1 : Nat) (v2 : Int32) (w0 : Int32) (w1 : Int32) : px_p (kX10_refusal X) 24 5 ([some (.ref 28), some (.ref (f1)), some (.int (v2))], [.int (w1), .int (w0)], (hp M J R c e nL xs D)) =
    cond (px_inb (v2) 6)
    (cond (decide ((w0 + w1) ≤ ((M 31) (Int32.toNatClampNeg (v2)))))
    (px_run (px_mk (kX10_refusal X)) 47 ([some (.ref 28), some (.ref (f1)), some (.int (v2))], [], (hp M J R c e nL xs D)))
    (px_run (px_mk (kX10_refusal X)) 48 ([some (.ref 28), some (.ref (f1)), some (.int (v2))], [.int (3)], (hp M J R c e nL xs D)))) none := rfl
set_option maxRecDepth 40000 in
theorem eX10_refusal_47 (X : px_X) (M : Nat → Nat → Int32) (J : Nat → Nat → Int64) (R : Nat → Nat → Option Nat) (c e : Nat) (nL : Nat) (xs : Nat → Int32) (D : px_H) (o0 : Option Value) (o1 : Option Value) (o2 : Option Value) : px_run (px_mk (kX10_refusal X)) 47 ([o0, o1, o2], [], (hp M J R c e nL xs D)) =
    px_run (px_mk (kX10_refusal X)) 48 ([none, none, none], [.int (0)], (hp M J R c e nL xs D)) := (px_run_eq _ _ _).trans rfl
set_option maxRecDepth 40000 in
theorem eX10_refusal_48 (X : px_X) (M : Nat → Nat → Int32) (J : Nat → Nat → Int64) (R : Nat → Nat → Option Nat) (c e : Nat) (nL : Nat) (xs : Nat → Int32) (D : px_H) (o0 : Option Value) (o1 : Option Value) (o2 : Option Value) (w0 : Int32) : px_run (px_mk (kX10_refusal X)) 48 ([o0, o1, o2], [.int (w0)], (hp M J R c e nL xs D)) =
    some (some (.int (w0)), (hp M J R c e nL xs D)) := (px_run_eq _ _ _).trans rfl
