/-! block equations over the fixed layout (written by wip/whole/seg.py) -/
set_option maxRecDepth 40000 in
theorem eX2_x_0 (X : px_X) (M : Nat → Nat → Int32) (J : Nat → Nat → Int64) (R : Nat → Nat → Option Nat) (c e : Nat) (nL : Nat) (xs : Nat → Int32) (D : px_H) (f0 : Nat) : px_run (px_mk (kX2_x X)) 0 ([some (.ref (f0))], [], (hp M J R c e nL xs D)) =
    px_p (kX2_x X) 0 1 ([some (.ref (f0))], [.ref (f0)], (hp M J R c e nL xs D)) := (px_run_eq _ _ _).trans rfl
set_option maxRecDepth 40000 in
theorem eX2_x_0_1 (X : px_X) (G : px_H) (f0 : Nat) (g0 : Nat) : px_p (kX2_x X) 0 1 ([some (.ref (f0))], [.ref (g0)], G) =
    px_vb (px_gf G (g0) 2 1) (fun v => px_p (kX2_x X) 0 2 ([some (.ref (f0))], v :: [], G)) := px_sgetf
set_option maxRecDepth 40000 in
theorem eX2_x_0_2 (X : px_X) (M : Nat → Nat → Int32) (J : Nat → Nat → Int64) (R : Nat → Nat → Option Nat) (c e : Nat) (nL : Nat) (xs : Nat → Int32) (D : px_H) (f0 : Nat) (w0 : Int32) : px_p (kX2_x X) 0 2 ([some (.ref (f0))], [.int (w0)], (hp M J R c e nL xs D)) =
    some (some (.int ((w0 - w0 / 10 * 10))), (hp M J R c e nL xs D)) := rfl
set_option maxRecDepth 40000 in
theorem eX2_y_0 (X : px_X) (M : Nat → Nat → Int32) (J : Nat → Nat → Int64) (R : Nat → Nat → Option Nat) (c e : Nat) (nL : Nat) (xs : Nat → Int32) (D : px_H) (f0 : Nat) : px_run (px_mk (kX2_y X)) 0 ([some (.ref (f0))], [], (hp M J R c e nL xs D)) =
    px_p (kX2_y X) 0 1 ([some (.ref (f0))], [.ref (f0)], (hp M J R c e nL xs D)) := (px_run_eq _ _ _).trans rfl
set_option maxRecDepth 40000 in
theorem eX2_y_0_1 (X : px_X) (G : px_H) (f0 : Nat) (g0 : Nat) : px_p (kX2_y X) 0 1 ([some (.ref (f0))], [.ref (g0)], G) =
    px_vb (px_gf G (g0) 2 1) (fun v => px_p (kX2_y X) 0 2 ([some (.ref (f0))], v :: [], G)) := px_sgetf
set_option maxRecDepth 40000 in
theorem eX2_y_0_2 (X : px_X) (M : Nat → Nat → Int32) (J : Nat → Nat → Int64) (R : Nat → Nat → Option Nat) (c e : Nat) (nL : Nat) (xs : Nat → Int32) (D : px_H) (f0 : Nat) (w0 : Int32) : px_p (kX2_y X) 0 2 ([some (.ref (f0))], [.int (w0)], (hp M J R c e nL xs D)) =
    some (some (.int ((w0 / 10))), (hp M J R c e nL xs D)) := rfl
set_option maxRecDepth 40000 in
theorem eX2_isUnder_0 (X : px_X) (M : Nat → Nat → Int32) (J : Nat → Nat → Int64) (R : Nat → Nat → Option Nat) (c e : Nat) (nL : Nat) (xs : Nat → Int32) (D : px_H) (f0 : Nat) (v1 : Int32) : px_run (px_mk (kX2_isUnder X)) 0 ([some (.ref (f0)), some (.int (v1)), none, none], [], (hp M J R c e nL xs D)) =
    px_p (kX2_isUnder X) 0 1 ([some (.ref (f0)), some (.int (v1)), none, none], [.ref (f0)], (hp M J R c e nL xs D)) := (px_run_eq _ _ _).trans rfl
set_option maxRecDepth 40000 in
theorem eX2_isUnder_0_1 (X : px_X) (G : px_H) (f0 : Nat) (v1 : Int32) (g0 : Nat) : px_p (kX2_isUnder X) 0 1 ([some (.ref (f0)), some (.int (v1)), none, none], [.ref (g0)], G) =
    px_vb (px_gf G (g0) 2 0) (fun v => px_p (kX2_isUnder X) 0 2 ([some (.ref (f0)), some (.int (v1)), none, none], v :: [], G)) := px_sgetf
set_option maxRecDepth 40000 in
theorem eX2_isUnder_0_2 (X : px_X) (M : Nat → Nat → Int32) (J : Nat → Nat → Int64) (R : Nat → Nat → Option Nat) (c e : Nat) (nL : Nat) (xs : Nat → Int32) (D : px_H) (f0 : Nat) (v1 : Int32) (w0 : Int32) : px_p (kX2_isUnder X) 0 2 ([some (.ref (f0)), some (.int (v1)), none, none], [.int (w0)], (hp M J R c e nL xs D)) =
    px_run (px_mk (kX2_isUnder X)) 7 ([some (.ref (f0)), some (.int (v1)), some (.int (w0)), some (.int (0))], [], (hp M J R c e nL xs D)) := rfl
set_option maxRecDepth 40000 in
theorem eX2_isUnder_7 (X : px_X) (M : Nat → Nat → Int32) (J : Nat → Nat → Int64) (R : Nat → Nat → Option Nat) (c e : Nat) (nL : Nat) (xs : Nat → Int32) (D : px_H) (o0 : Option Value) (v1 : Int32) (v2 : Int32) (v3 : Int32) : px_run (px_mk (kX2_isUnder X)) 7 ([o0, some (.int (v1)), some (.int (v2)), some (.int (v3))], [], (hp M J R c e nL xs D)) =
    cond (decide (6 ≤ v3))
    (px_run (px_mk (kX2_isUnder X)) 42 ([none, some (.int (v1)), some (.int (v2)), some (.int (v3))], [], (hp M J R c e nL xs D)))
    (cond (decide (v2 < 0))
    (px_run (px_mk (kX2_isUnder X)) 42 ([none, some (.int (v1)), some (.int (v2)), some (.int (v3))], [], (hp M J R c e nL xs D)))
    (cond (decide (6 ≤ v2))
    (px_run (px_mk (kX2_isUnder X)) 42 ([none, some (.int (v1)), some (.int (v2)), some (.int (v3))], [], (hp M J R c e nL xs D)))
    (cond (decide (¬ v2 = v1))
    (px_run (px_mk (kX2_isUnder X)) 30 ([none, some (.int (v1)), some (.int (v2)), some (.int (v3))], [], (hp M J R c e nL xs D)))
    (some (some (.int (1)), (hp M J R c e nL xs D)))))) := (px_run_eq _ _ _).trans rfl
set_option maxRecDepth 40000 in
theorem eX2_isUnder_42 (X : px_X) (M : Nat → Nat → Int32) (J : Nat → Nat → Int64) (R : Nat → Nat → Option Nat) (c e : Nat) (nL : Nat) (xs : Nat → Int32) (D : px_H) (o0 : Option Value) (o1 : Option Value) (o2 : Option Value) (o3 : Option Value) : px_run (px_mk (kX2_isUnder X)) 42 ([o0, o1, o2, o3], [], (hp M J R c e nL xs D)) =
    some (some (.int (0)), (hp M J R c e nL xs D)) := (px_run_eq _ _ _).trans rfl
set_option maxRecDepth 40000 in
theorem eX2_isUnder_30 (X : px_X) (M : Nat → Nat → Int32) (J : Nat → Nat → Int64) (R : Nat → Nat → Option Nat) (c e : Nat) (nL : Nat) (xs : Nat → Int32) (D : px_H) (o0 : Option Value) (v1 : Int32) (v2 : Int32) (v3 : Int32) : px_run (px_mk (kX2_isUnder X)) 30 ([o0, some (.int (v1)), some (.int (v2)), some (.int (v3))], [], (hp M J R c e nL xs D)) =
    cond (px_inb (v2) 6)
    (px_run (px_mk (kX2_isUnder X)) 7 ([none, some (.int (v1)), some (.int ((px_KA (Int32.toNatClampNeg (v2))))), some (.int ((v3 + 1)))], [], (hp M J R c e nL xs D))) none := (px_run_eq _ _ _).trans rfl
set_option maxRecDepth 40000 in
theorem eX2_addHole_0 (X : px_X) (M : Nat → Nat → Int32) (J : Nat → Nat → Int64) (R : Nat → Nat → Option Nat) (c e : Nat) (nL : Nat) (xs : Nat → Int32) (D : px_H) (f0 : Nat) (v1 : Int32) : px_run (px_mk (kX2_addHole X)) 0 ([some (.ref (f0)), some (.int (v1)), none], [], (hp M J R c e nL xs D)) =
    px_run (px_mk (kX2_addHole X)) 2 ([some (.ref (f0)), some (.int (v1)), some (.int (0))], [], (hp M J R c e nL xs D)) := (px_run_eq _ _ _).trans rfl
set_option maxRecDepth 40000 in
theorem eX2_addHole_2 (X : px_X) (M : Nat → Nat → Int32) (J : Nat → Nat → Int64) (R : Nat → Nat → Option Nat) (c e : Nat) (nL : Nat) (xs : Nat → Int32) (D : px_H) (f0 : Nat) (v1 : Int32) (v2 : Int32) : px_run (px_mk (kX2_addHole X)) 2 ([some (.ref (f0)), some (.int (v1)), some (.int (v2))], [], (hp M J R c e nL xs D)) =
    px_p (kX2_addHole X) 2 2 ([some (.ref (f0)), some (.int (v1)), some (.int (v2))], [.ref (f0), .int (v2)], (hp M J R c e nL xs D)) := (px_run_eq _ _ _).trans rfl
set_option maxRecDepth 40000 in
theorem eX2_addHole_2_2 (X : px_X) (G : px_H) (f0 : Nat) (v1 : Int32) (v2 : Int32) (w0 : Int32) (g1 : Nat) : px_p (kX2_addHole X) 2 2 ([some (.ref (f0)), some (.int (v1)), some (.int (v2))], [.ref (g1), .int (w0)], G) =
    px_vb (px_gf G (g1) 2 4) (fun v => px_p (kX2_addHole X) 2 3 ([some (.ref (f0)), some (.int (v1)), some (.int (v2))], v :: [.int (w0)], G)) := px_sgetf
set_option maxRecDepth 40000 in
theorem eX2_addHole_2_3 (X : px_X) (M : Nat → Nat → Int32) (J : Nat → Nat → Int64) (R : Nat → Nat → Option Nat) (c e : Nat) (nL : Nat) (xs : Nat → Int32) (D : px_H) (f0 : Nat) (v1 : Int32) (v2 : Int32) (w0 : Int32) (w1 : Int32) : px_p (kX2_addHole X) 2 3 ([some (.ref (f0)), some (.int (v1)), some (.int (v2))], [.int (w1), .int (w0)], (hp M J R c e nL xs D)) =
    cond (decide (w1 ≤ w0))
    (px_run (px_mk (kX2_addHole X)) 29 ([some (.ref (f0)), some (.int (v1)), some (.int (v2))], [], (hp M J R c e nL xs D)))
    (px_p (kX2_addHole X) 2 5 ([some (.ref (f0)), some (.int (v1)), some (.int (v2))], [.ref (f0)], (hp M J R c e nL xs D))) := rfl
set_option maxRecDepth 40000 in
theorem eX2_addHole_29 (X : px_X) (M : Nat → Nat → Int32) (J : Nat → Nat → Int64) (R : Nat → Nat → Option Nat) (c e : Nat) (nL : Nat) (xs : Nat → Int32) (D : px_H) (f0 : Nat) (v1 : Int32) (o2 : Option Value) : px_run (px_mk (kX2_addHole X)) 29 ([some (.ref (f0)), some (.int (v1)), o2], [], (hp M J R c e nL xs D)) =
    px_p (kX2_addHole X) 29 1 ([some (.ref (f0)), some (.int (v1)), none], [.ref (f0)], (hp M J R c e nL xs D)) := (px_run_eq _ _ _).trans rfl
set_option maxRecDepth 40000 in
theorem eX2_addHole_2_5 (X : px_X) (G : px_H) (f0 : Nat) (v1 : Int32) (v2 : Int32) (g0 : Nat) : px_p (kX2_addHole X) 2 5 ([some (.ref (f0)), some (.int (v1)), some (.int (v2))], [.ref (g0)], G) =
    px_vb (px_gf G (g0) 2 5) (fun v => px_p (kX2_addHole X) 2 6 ([some (.ref (f0)), some (.int (v1)), some (.int (v2))], v :: [], G)) := px_sgetf
set_option maxRecDepth 40000 in
theorem eX2_addHole_29_1 (X : px_X) (G : px_H) (f0 : Nat) (v1 : Int32) (g0 : Nat) : px_p (kX2_addHole X) 29 1 ([some (.ref (f0)), some (.int (v1)), none], [.ref (g0)], G) =
    px_vb (px_gf G (g0) 2 4) (fun v => px_p (kX2_addHole X) 29 2 ([some (.ref (f0)), some (.int (v1)), none], v :: [], G)) := px_sgetf
set_option maxRecDepth 40000 in
theorem eX2_addHole_2_6 (X : px_X) (M : Nat → Nat → Int32) (J : Nat → Nat → Int64) (R : Nat → Nat → Option Nat) (c e : Nat) (nL : Nat) (xs : Nat → Int32) (D : px_H) (f0 : Nat) (v1 : Int32) (v2 : Int32) (g0 : Nat) : px_p (kX2_addHole X) 2 6 ([some (.ref (f0)), some (.int (v1)), some (.int (v2))], [.ref (g0)], (hp M J R c e nL xs D)) =
    px_p (kX2_addHole X) 2 7 ([some (.ref (f0)), some (.int (v1)), some (.int (v2))], [.int (v2), .ref (g0)], (hp M J R c e nL xs D)) := rfl
set_option maxRecDepth 40000 in
theorem eX2_addHole_29_2 (X : px_X) (M : Nat → Nat → Int32) (J : Nat → Nat → Int64) (R : Nat → Nat → Option Nat) (c e : Nat) (nL : Nat) (xs : Nat → Int32) (D : px_H) (f0 : Nat) (v1 : Int32) (w0 : Int32) : px_p (kX2_addHole X) 29 2 ([some (.ref (f0)), some (.int (v1)), none], [.int (w0)], (hp M J R c e nL xs D)) =
    cond (decide (w0 < 8))
    (px_run (px_mk (kX2_addHole X)) 41 ([some (.ref (f0)), some (.int (v1)), none], [], (hp M J R c e nL xs D)))
    (some (some (.int ((-4))), (hp M J R c e nL xs D))) := rfl
set_option maxRecDepth 40000 in
theorem eX2_addHole_2_7 (X : px_X) (G : px_H) (f0 : Nat) (v1 : Int32) (v2 : Int32) (g0 : Nat) (w1 : Int32) : px_p (kX2_addHole X) 2 7 ([some (.ref (f0)), some (.int (v1)), some (.int (v2))], [.int (w1), .ref (g0)], G) =
    px_ib (px_ga G (g0) 0 (w1)) (fun v => px_p (kX2_addHole X) 2 8 ([some (.ref (f0)), some (.int (v1)), some (.int (v2))], .int v :: [], G)) := px_siald
set_option maxRecDepth 40000 in
theorem eX2_addHole_41 (X : px_X) (M : Nat → Nat → Int32) (J : Nat → Nat → Int64) (R : Nat → Nat → Option Nat) (c e : Nat) (nL : Nat) (xs : Nat → Int32) (D : px_H) (f0 : Nat) (v1 : Int32) (o2 : Option Value) : px_run (px_mk (kX2_addHole X)) 41 ([some (.ref (f0)), some (.int (v1)), o2], [], (hp M J R c e nL xs D)) =
    px_p (kX2_addHole X) 41 1 ([some (.ref (f0)), some (.int (v1)), none], [.ref (f0)], (hp M J R c e nL xs D)) := (px_run_eq _ _ _).trans rfl
set_option maxRecDepth 40000 in
theorem eX2_addHole_2_8 (X : px_X) (M : Nat → Nat → Int32) (J : Nat → Nat → Int64) (R : Nat → Nat → Option Nat) (c e : Nat) (nL : Nat) (xs : Nat → Int32) (D : px_H) (f0 : Nat) (v1 : Int32) (v2 : Int32) (w0 : Int32) : px_p (kX2_addHole X) 2 8 ([some (.ref (f0)), some (.int (v1)), some (.int (v2))], [.int (w0)], (hp M J R c e nL xs D)) =
    cond (decide (¬ w0 = v1))
    (px_run (px_mk (kX2_addHole X)) 23 ([some (.ref (f0)), some (.int (v1)), some (.int (v2))], [], (hp M J R c e nL xs D)))
    (some (some (.int ((-3))), (hp M J R c e nL xs D))) := rfl
set_option maxRecDepth 40000 in
theorem eX2_addHole_41_1 (X : px_X) (G : px_H) (f0 : Nat) (v1 : Int32) (g0 : Nat) : px_p (kX2_addHole X) 41 1 ([some (.ref (f0)), some (.int (v1)), none], [.ref (g0)], G) =
    px_vb (px_gf G (g0) 2 5) (fun v => px_p (kX2_addHole X) 41 2 ([some (.ref (f0)), some (.int (v1)), none], v :: [], G)) := px_sgetf
set_option maxRecDepth 40000 in
theorem eX2_addHole_23 (X : px_X) (M : Nat → Nat → Int32) (J : Nat → Nat → Int64) (R : Nat → Nat → Option Nat) (c e : Nat) (nL : Nat) (xs : Nat → Int32) (D : px_H) (f0 : Nat) (v1 : Int32) (v2 : Int32) : px_run (px_mk (kX2_addHole X)) 23 ([some (.ref (f0)), some (.int (v1)), some (.int (v2))], [], (hp M J R c e nL xs D)) =
    px_run (px_mk (kX2_addHole X)) 2 ([some (.ref (f0)), some (.int (v1)), some (.int ((v2 + 1)))], [], (hp M J R c e nL xs D)) := (px_run_eq _ _ _).trans rfl
set_option maxRecDepth 40000 in
theorem eX2_addHole_41_2 (X : px_X) (M : Nat → Nat → Int32) (J : Nat → Nat → Int64) (R : Nat → Nat → Option Nat) (c e : Nat) (nL : Nat) (xs : Nat → Int32) (D : px_H) (f0 : Nat) (v1 : Int32) (g0 : Nat) : px_p (kX2_addHole X) 41 2 ([some (.ref (f0)), some (.int (v1)), none], [.ref (g0)], (hp M J R c e nL xs D)) =
    px_p (kX2_addHole X) 41 3 ([some (.ref (f0)), some (.int (v1)), none], [.ref (f0), .ref (g0)], (hp M J R c e nL xs D)) := rfl
set_option maxRecDepth 40000 in
theorem eX2_addHole_41_3 (X : px_X) (G : px_H) (f0 : Nat) (v1 : Int32) (g0 : Nat) (g1 : Nat) : px_p (kX2_addHole X) 41 3 ([some (.ref (f0)), some (.int (v1)), none], [.ref (g1), .ref (g0)], G) =
    px_vb (px_gf G (g1) 2 4) (fun v => px_p (kX2_addHole X) 41 4 ([some (.ref (f0)), some (.int (v1)), none], v :: [.ref (g0)], G)) := px_sgetf
set_option maxRecDepth 40000 in
theorem eX2_addHole_41_4 (X : px_X) (M : Nat → Nat → Int32) (J : Nat → Nat → Int64) (R : Nat → Nat → Option Nat) (c e : Nat) (nL : Nat) (xs : Nat → Int32) (D : px_H) (f0 : Nat) (v1 : Int32) (g0 : Nat) (w1 : Int32) : px_p (kX2_addHole X) 41 4 ([some (.ref (f0)), some (.int (v1)), none], [.int (w1), .ref (g0)], (hp M J R c e nL xs D)) =
    px_p (kX2_addHole X) 41 5 ([some (.ref (f0)), some (.int (v1)), none], [.int (v1), .int (w1), .ref (g0)], (hp M J R c e nL xs D)) := rfl
set_option maxRecDepth 40000 in
theorem eX2_addHole_41_5 (X : px_X) (G : px_H) (f0 : Nat) (v1 : Int32) (g0 : Nat) (w1 : Int32) (w2 : Int32) : px_p (kX2_addHole X) 41 5 ([some (.ref (f0)), some (.int (v1)), none], [.int (w2), .int (w1), .ref (g0)], G) =
    px_wb (px_pa G (g0) (w1) (w2)) (fun G1 => px_p (kX2_addHole X) 41 6 ([some (.ref (f0)), some (.int (v1)), none], [], G1)) := px_siast
set_option maxRecDepth 40000 in
theorem eX2_addHole_41_6 (X : px_X) (M : Nat → Nat → Int32) (J : Nat → Nat → Int64) (R : Nat → Nat → Option Nat) (c e : Nat) (nL : Nat) (xs : Nat → Int32) (D : px_H) (f0 : Nat) (v1 : Int32) : px_p (kX2_addHole X) 41 6 ([some (.ref (f0)), some (.int (v1)), none], [], (hp M J R c e nL xs D)) =
    px_p (kX2_addHole X) 41 8 ([some (.ref (f0)), some (.int (v1)), none], [.ref (f0), .ref (f0)], (hp M J R c e nL xs D)) := rfl
set_option maxRecDepth 40000 in
theorem eX2_addHole_41_8 (X : px_X) (G : px_H) (f0 : Nat) (v1 : Int32) (g0 : Nat) (g1 : Nat) : px_p (kX2_addHole X) 41 8 ([some (.ref (f0)), some (.int (v1)), none], [.ref (g1), .ref (g0)], G) =
    px_vb (px_gf G (g1) 2 4) (fun v => px_p (kX2_addHole X) 41 9 ([some (.ref (f0)), some (.int (v1)), none], v :: [.ref (g0)], G)) := px_sgetf
set_option maxRecDepth 40000 in
theorem eX2_addHole_41_9 (X : px_X) (M : Nat → Nat → Int32) (J : Nat → Nat → Int64) (R : Nat → Nat → Option Nat) (c e : Nat) (nL : Nat) (xs : Nat → Int32) (D : px_H) (f0 : Nat) (v1 : Int32) (g0 : Nat) (w1 : Int32) : px_p (kX2_addHole X) 41 9 ([some (.ref (f0)), some (.int (v1)), none], [.int (w1), .ref (g0)], (hp M J R c e nL xs D)) =
    px_p (kX2_addHole X) 41 11 ([some (.ref (f0)), some (.int (v1)), none], [.int ((w1 + 1)), .ref (g0)], (hp M J R c e nL xs D)) := rfl
set_option maxRecDepth 40000 in
theorem eX2_addHole_41_11 (X : px_X) (G : px_H) (f0 : Nat) (v1 : Int32) (g0 : Nat) (w1 : Int32) : px_p (kX2_addHole X) 41 11 ([some (.ref (f0)), some (.int (v1)), none], [.int (w1), .ref (g0)], G) =
    px_wb (px_pf G (g0) 2 4 (.int (w1))) (fun G1 => px_p (kX2_addHole X) 41 12 ([some (.ref (f0)), some (.int (v1)), none], [], G1)) := px_sputi
set_option maxRecDepth 40000 in
theorem eX2_addHole_41_12 (X : px_X) (M : Nat → Nat → Int32) (J : Nat → Nat → Int64) (R : Nat → Nat → Option Nat) (c e : Nat) (nL : Nat) (xs : Nat → Int32) (D : px_H) (f0 : Nat) (v1 : Int32) : px_p (kX2_addHole X) 41 12 ([some (.ref (f0)), some (.int (v1)), none], [], (hp M J R c e nL xs D)) =
    px_p (kX2_addHole X) 41 13 ([some (.ref (f0)), some (.int (v1)), none], [.ref (f0)], (hp M J R c e nL xs D)) := rfl
set_option maxRecDepth 40000 in
theorem eX2_addHole_41_13 (X : px_X) (G : px_H) (f0 : Nat) (v1 : Int32) (g0 : Nat) : px_p (kX2_addHole X) 41 13 ([some (.ref (f0)), some (.int (v1)), none], [.ref (g0)], G) =
    px_vb (px_gf G (g0) 2 4) (fun v => px_p (kX2_addHole X) 41 14 ([some (.ref (f0)), some (.int (v1)), none], v :: [], G)) := px_sgetf
set_option maxRecDepth 40000 in
theorem eX2_addHole_41_14 (X : px_X) (M : Nat → Nat → Int32) (J : Nat → Nat → Int64) (R : Nat → Nat → Option Nat) (c e : Nat) (nL : Nat) (xs : Nat → Int32) (D : px_H) (f0 : Nat) (v1 : Int32) (w0 : Int32) : px_p (kX2_addHole X) 41 14 ([some (.ref (f0)), some (.int (v1)), none], [.int (w0)], (hp M J R c e nL xs D)) =
    some (some (.int (w0)), (hp M J R c e nL xs D)) := rfl
set_option maxRecDepth 40000 in
theorem eX2_item_0 (X : px_X) (M : Nat → Nat → Int32) (J : Nat → Nat → Int64) (R : Nat → Nat → Option Nat) (c e : Nat) (nL : Nat) (xs : Nat → Int32) (D : px_H) (f0 : Nat) (v1 : Int32) : px_run (px_mk (kX2_item X)) 0 ([some (.ref (f0)), some (.int (v1))], [], (hp M J R c e nL xs D)) =
    cond (decide (v1 = 0))
    (px_run (px_mk (kX2_item X)) 48 ([some (.ref (f0)), some (.int (v1))], [], (hp M J R c e nL xs D)))
    (cond (decide (v1 = 1))
    (px_run (px_mk (kX2_item X)) 53 ([some (.ref (f0)), some (.int (v1))], [], (hp M J R c e nL xs D)))
    (cond (decide (v1 = 2))
    (px_run (px_mk (kX2_item X)) 58 ([some (.ref (f0)), some (.int (v1))], [], (hp M J R c e nL xs D)))
    (cond (decide (v1 = 3))
    (px_run (px_mk (kX2_item X)) 63 ([some (.ref (f0)), some (.int (v1))], [], (hp M J R c e nL xs D)))
    (cond (decide (v1 = 4))
    (px_run (px_mk (kX2_item X)) 68 ([some (.ref (f0)), some (.int (v1))], [], (hp M J R c e nL xs D)))
    (cond (decide (v1 = 5))
    (px_run (px_mk (kX2_item X)) 73 ([some (.ref (f0)), some (.int (v1))], [], (hp M J R c e nL xs D)))
    (cond (decide (v1 = 6))
    (px_run (px_mk (kX2_item X)) 78 ([some (.ref (f0)), some (.int (v1))], [], (hp M J R c e nL xs D)))
    (cond (decide (v1 = 7))
    (px_run (px_mk (kX2_item X)) 83 ([some (.ref (f0)), some (.int (v1))], [], (hp M J R c e nL xs D)))
    (px_run (px_mk (kX2_item X)) 88 ([some (.ref (f0)), some (.int (v1))], [], (hp M J R c e nL xs D)))))))))) := (px_run_eq _ _ _).trans rfl
set_option maxRecDepth 40000 in
theorem eX2_item_88 (X : px_X) (M : Nat → Nat → Int32) (J : Nat → Nat → Int64) (R : Nat → Nat → Option Nat) (c e : Nat) (nL : Nat) (xs : Nat → Int32) (D : px_H) (o0 : Option Value) (o1 : Option Value) : px_run (px_mk (kX2_item X)) 88 ([o0, o1], [], (hp M J R c e nL xs D)) =
    some (some (.int ((-2))), (hp M J R c e nL xs D)) := (px_run_eq _ _ _).trans rfl
set_option maxRecDepth 40000 in
theorem eX2_item_83 (X : px_X) (M : Nat → Nat → Int32) (J : Nat → Nat → Int64) (R : Nat → Nat → Option Nat) (c e : Nat) (nL : Nat) (xs : Nat → Int32) (D : px_H) (f0 : Nat) (o1 : Option Value) : px_run (px_mk (kX2_item X)) 83 ([some (.ref (f0)), o1], [], (hp M J R c e nL xs D)) =
    px_p (kX2_item X) 83 1 ([some (.ref (f0)), none], [.ref (f0)], (hp M J R c e nL xs D)) := (px_run_eq _ _ _).trans rfl
set_option maxRecDepth 40000 in
theorem eX2_item_78 (X : px_X) (M : Nat → Nat → Int32) (J : Nat → Nat → Int64) (R : Nat → Nat → Option Nat) (c e : Nat) (nL : Nat) (xs : Nat → Int32) (D : px_H) (f0 : Nat) (o1 : Option Value) : px_run (px_mk (kX2_item X)) 78 ([some (.ref (f0)), o1], [], (hp M J R c e nL xs D)) =
    px_p (kX2_item X) 78 1 ([some (.ref (f0)), none], [.ref (f0)], (hp M J R c e nL xs D)) := (px_run_eq _ _ _).trans rfl
set_option maxRecDepth 40000 in
theorem eX2_item_73 (X : px_X) (M : Nat → Nat → Int32) (J : Nat → Nat → Int64) (R : Nat → Nat → Option Nat) (c e : Nat) (nL : Nat) (xs : Nat → Int32) (D : px_H) (f0 : Nat) (o1 : Option Value) : px_run (px_mk (kX2_item X)) 73 ([some (.ref (f0)), o1], [], (hp M J R c e nL xs D)) =
    px_p (kX2_item X) 73 1 ([some (.ref (f0)), none], [.ref (f0)], (hp M J R c e nL xs D)) := (px_run_eq _ _ _).trans rfl
set_option maxRecDepth 40000 in
theorem eX2_item_68 (X : px_X) (M : Nat → Nat → Int32) (J : Nat → Nat → Int64) (R : Nat → Nat → Option Nat) (c e : Nat) (nL : Nat) (xs : Nat → Int32) (D : px_H) (f0 : Nat) (o1 : Option Value) : px_run (px_mk (kX2_item X)) 68 ([some (.ref (f0)), o1], [], (hp M J R c e nL xs D)) =
    px_p (kX2_item X) 68 1 ([some (.ref (f0)), none], [.ref (f0)], (hp M J R c e nL xs D)) := (px_run_eq _ _ _).trans rfl
set_option maxRecDepth 40000 in
theorem eX2_item_63 (X : px_X) (M : Nat → Nat → Int32) (J : Nat → Nat → Int64) (R : Nat → Nat → Option Nat) (c e : Nat) (nL : Nat) (xs : Nat → Int32) (D : px_H) (f0 : Nat) (o1 : Option Value) : px_run (px_mk (kX2_item X)) 63 ([some (.ref (f0)), o1], [], (hp M J R c e nL xs D)) =
    px_p (kX2_item X) 63 1 ([some (.ref (f0)), none], [.ref (f0)], (hp M J R c e nL xs D)) := (px_run_eq _ _ _).trans rfl
set_option maxRecDepth 40000 in
theorem eX2_item_58 (X : px_X) (M : Nat → Nat → Int32) (J : Nat → Nat → Int64) (R : Nat → Nat → Option Nat) (c e : Nat) (nL : Nat) (xs : Nat → Int32) (D : px_H) (f0 : Nat) (o1 : Option Value) : px_run (px_mk (kX2_item X)) 58 ([some (.ref (f0)), o1], [], (hp M J R c e nL xs D)) =
    px_p (kX2_item X) 58 1 ([some (.ref (f0)), none], [.ref (f0)], (hp M J R c e nL xs D)) := (px_run_eq _ _ _).trans rfl
set_option maxRecDepth 40000 in
theorem eX2_item_53 (X : px_X) (M : Nat → Nat → Int32) (J : Nat → Nat → Int64) (R : Nat → Nat → Option Nat) (c e : Nat) (nL : Nat) (xs : Nat → Int32) (D : px_H) (f0 : Nat) (o1 : Option Value) : px_run (px_mk (kX2_item X)) 53 ([some (.ref (f0)), o1], [], (hp M J R c e nL xs D)) =
    px_p (kX2_item X) 53 1 ([some (.ref (f0)), none], [.ref (f0)], (hp M J R c e nL xs D)) := (px_run_eq _ _ _).trans rfl
set_option maxRecDepth 40000 in
theorem eX2_item_48 (X : px_X) (M : Nat → Nat → Int32) (J : Nat → Nat → Int64) (R : Nat → Nat → Option Nat) (c e : Nat) (nL : Nat) (xs : Nat → Int32) (D : px_H) (f0 : Nat) (o1 : Option Value) : px_run (px_mk (kX2_item X)) 48 ([some (.ref (f0)), o1], [], (hp M J R c e nL xs D)) =
    px_p (kX2_item X) 48 1 ([some (.ref (f0)), none], [.ref (f0)], (hp M J R c e nL xs D)) := (px_run_eq _ _ _).trans rfl
set_option maxRecDepth 40000 in
theorem eX2_item_83_1 (X : px_X) (G : px_H) (f0 : Nat) (g0 : Nat) : px_p (kX2_item X) 83 1 ([some (.ref (f0)), none], [.ref (g0)], G) =
    cond (px_isc G (g0) 2)
    (px_bd (X 27 [.ref (g0)] G)
    (fun v G1 => px_p (kX2_item X) 83 2 ([some (.ref (f0)), none], px_psh v [], G1))) none := px_scallV rfl rfl rfl rfl
set_option maxRecDepth 40000 in
theorem eX2_item_78_1 (X : px_X) (G : px_H) (f0 : Nat) (g0 : Nat) : px_p (kX2_item X) 78 1 ([some (.ref (f0)), none], [.ref (g0)], G) =
    px_vb (px_gf G (g0) 2 8) (fun v => px_p (kX2_item X) 78 2 ([some (.ref (f0)), none], v :: [], G)) := px_sgetf
set_option maxRecDepth 40000 in
theorem eX2_item_73_1 (X : px_X) (G : px_H) (f0 : Nat) (g0 : Nat) : px_p (kX2_item X) 73 1 ([some (.ref (f0)), none], [.ref (g0)], G) =
    px_vb (px_gf G (g0) 2 7) (fun v => px_p (kX2_item X) 73 2 ([some (.ref (f0)), none], v :: [], G)) := px_sgetf
set_option maxRecDepth 40000 in
theorem eX2_item_68_1 (X : px_X) (G : px_H) (f0 : Nat) (g0 : Nat) : px_p (kX2_item X) 68 1 ([some (.ref (f0)), none], [.ref (g0)], G) =
    px_vb (px_gf G (g0) 2 4) (fun v => px_p (kX2_item X) 68 2 ([some (.ref (f0)), none], v :: [], G)) := px_sgetf
set_option maxRecDepth 40000 in
theorem eX2_item_63_1 (X : px_X) (G : px_H) (f0 : Nat) (g0 : Nat) : px_p (kX2_item X) 63 1 ([some (.ref (f0)), none], [.ref (g0)], G) =
    px_vb (px_gf G (g0) 2 3) (fun v => px_p (kX2_item X) 63 2 ([some (.ref (f0)), none], v :: [], G)) := px_sgetf
set_option maxRecDepth 40000 in
theorem eX2_item_58_1 (X : px_X) (G : px_H) (f0 : Nat) (g0 : Nat) : px_p (kX2_item X) 58 1 ([some (.ref (f0)), none], [.ref (g0)], G) =
    px_vb (px_gf G (g0) 2 2) (fun v => px_p (kX2_item X) 58 2 ([some (.ref (f0)), none], v :: [], G)) := px_sgetf
set_option maxRecDepth 40000 in
theorem eX2_item_53_1 (X : px_X) (G : px_H) (f0 : Nat) (g0 : Nat) : px_p (kX2_item X) 53 1 ([some (.ref (f0)), none], [.ref (g0)], G) =
    px_vb (px_gf G (g0) 2 1) (fun v => px_p (kX2_item X) 53 2 ([some (.ref (f0)), none], v :: [], G)) := px_sgetf
set_option maxRecDepth 40000 in
theorem eX2_item_48_1 (X : px_X) (G : px_H) (f0 : Nat) (g0 : Nat) : px_p (kX2_item X) 48 1 ([some (.ref (f0)), none], [.ref (g0)], G) =
    px_vb (px_gf G (g0) 2 0) (fun v => px_p (kX2_item X) 48 2 ([some (.ref (f0)), none], v :: [], G)) := px_sgetf
set_option maxRecDepth 40000 in
theorem eX2_item_83_2 (X : px_X) (M : Nat → Nat → Int32) (J : Nat → Nat → Int64) (R : Nat → Nat → Option Nat) (c e : Nat) (nL : Nat) (xs : Nat → Int32) (D : px_H) (f0 : Nat) (w0 : Int32) : px_p (kX2_item X) 83 2 ([some (.ref (f0)), none], [.int (w0)], (hp M J R c e nL xs D)) =
    some (some (.int (w0)), (hp M J R c e nL xs D)) := rfl
set_option maxRecDepth 40000 in
theorem eX2_item_78_2 (X : px_X) (M : Nat → Nat → Int32) (J : Nat → Nat → Int64) (R : Nat → Nat → Option Nat) (c e : Nat) (nL : Nat) (xs : Nat → Int32) (D : px_H) (f0 : Nat) (w0 : Int32) : px_p (kX2_item X) 78 2 ([some (.ref (f0)), none], [.int (w0)], (hp M J R c e nL xs D)) =
    some (some (.int (w0)), (hp M J R c e nL xs D)) := rfl
set_option maxRecDepth 40000 in
theorem eX2_item_73_2 (X : px_X) (M : Nat → Nat → Int32) (J : Nat → Nat → Int64) (R : Nat → Nat → Option Nat) (c e : Nat) (nL : Nat) (xs : Nat → Int32) (D : px_H) (f0 : Nat) (w0 : Int32) : px_p (kX2_item X) 73 2 ([some (.ref (f0)), none], [.int (w0)], (hp M J R c e nL xs D)) =
    some (some (.int (w0)), (hp M J R c e nL xs D)) := rfl
set_option maxRecDepth 40000 in
theorem eX2_item_68_2 (X : px_X) (M : Nat → Nat → Int32) (J : Nat → Nat → Int64) (R : Nat → Nat → Option Nat) (c e : Nat) (nL : Nat) (xs : Nat → Int32) (D : px_H) (f0 : Nat) (w0 : Int32) : px_p (kX2_item X) 68 2 ([some (.ref (f0)), none], [.int (w0)], (hp M J R c e nL xs D)) =
    some (some (.int (w0)), (hp M J R c e nL xs D)) := rfl
set_option maxRecDepth 40000 in
theorem eX2_item_63_2 (X : px_X) (M : Nat → Nat → Int32) (J : Nat → Nat → Int64) (R : Nat → Nat → Option Nat) (c e : Nat) (nL : Nat) (xs : Nat → Int32) (D : px_H) (f0 : Nat) (w0 : Int32) : px_p (kX2_item X) 63 2 ([some (.ref (f0)), none], [.int (w0)], (hp M J R c e nL xs D)) =
    some (some (.int (w0)), (hp M J R c e nL xs D)) := rfl
set_option maxRecDepth 40000 in
theorem eX2_item_58_2 (X : px_X) (M : Nat → Nat → Int32) (J : Nat → Nat → Int64) (R : Nat → Nat → Option Nat) (c e : Nat) (nL : Nat) (xs : Nat → Int32) (D : px_H) (f0 : Nat) (w0 : Int32) : px_p (kX2_item X) 58 2 ([some (.ref (f0)), none], [.int (w0)], (hp M J R c e nL xs D)) =
    some (some (.int (w0)), (hp M J R c e nL xs D)) := rfl
set_option maxRecDepth 40000 in
theorem eX2_item_53_2 (X : px_X) (M : Nat → Nat → Int32) (J : Nat → Nat → Int64) (R : Nat → Nat → Option Nat) (c e : Nat) (nL : Nat) (xs : Nat → Int32) (D : px_H) (f0 : Nat) (w0 : Int32) : px_p (kX2_item X) 53 2 ([some (.ref (f0)), none], [.int (w0)], (hp M J R c e nL xs D)) =
    some (some (.int (w0)), (hp M J R c e nL xs D)) := rfl
set_option maxRecDepth 40000 in
theorem eX2_item_48_2 (X : px_X) (M : Nat → Nat → Int32) (J : Nat → Nat → Int64) (R : Nat → Nat → Option Nat) (c e : Nat) (nL : Nat) (xs : Nat → Int32) (D : px_H) (f0 : Nat) (w0 : Int32) : px_p (kX2_item X) 48 2 ([some (.ref (f0)), none], [.int (w0)], (hp M J R c e nL xs D)) =
    some (some (.int (w0)), (hp M J R c e nL xs D)) := rfl
set_option maxRecDepth 40000 in
theorem eX2_readyDay_0 (X : px_X) (M : Nat → Nat → Int32) (J : Nat → Nat → Int64) (R : Nat → Nat → Option Nat) (c e : Nat) (nL : Nat) (xs : Nat → Int32) (D : px_H) (f0 : Nat) : px_run (px_mk (kX2_readyDay X)) 0 ([some (.ref (f0))], [], (hp M J R c e nL xs D)) =
    px_p (kX2_readyDay X) 0 1 ([some (.ref (f0))], [.ref (f0)], (hp M J R c e nL xs D)) := (px_run_eq _ _ _).trans rfl
set_option maxRecDepth 40000 in
theorem eX2_readyDay_0_1 (X : px_X) (G : px_H) (f0 : Nat) (g0 : Nat) : px_p (kX2_readyDay X) 0 1 ([some (.ref (f0))], [.ref (g0)], G) =
    px_vb (px_gf G (g0) 2 7) (fun v => px_p (kX2_readyDay X) 0 2 ([some (.ref (f0))], v :: [], G)) := px_sgetf
set_option maxRecDepth 40000 in
theorem eX2_readyDay_0_2 (X : px_X) (M : Nat → Nat → Int32) (J : Nat → Nat → Int64) (R : Nat → Nat → Option Nat) (c e : Nat) (nL : Nat) (xs : Nat → Int32) (D : px_H) (f0 : Nat) (w0 : Int32) : px_p (kX2_readyDay X) 0 2 ([some (.ref (f0))], [.int (w0)], (hp M J R c e nL xs D)) =
    cond (decide (w0 = (-1)))
    (px_run (px_mk (kX2_readyDay X)) 24 ([some (.ref (f0))], [], (hp M J R c e nL xs D)))
    (px_p (kX2_readyDay X) 0 5 ([some (.ref (f0))], [.ref (f0)], (hp M J R c e nL xs D))) := rfl
set_option maxRecDepth 40000 in
theorem eX2_readyDay_24 (X : px_X) (M : Nat → Nat → Int32) (J : Nat → Nat → Int64) (R : Nat → Nat → Option Nat) (c e : Nat) (nL : Nat) (xs : Nat → Int32) (D : px_H) (o0 : Option Value) : px_run (px_mk (kX2_readyDay X)) 24 ([o0], [], (hp M J R c e nL xs D)) =
    px_run (px_mk (kX2_readyDay X)) 49 ([none], [.int ((-1))], (hp M J R c e nL xs D)) := (px_run_eq _ _ _).trans rfl
set_option maxRecDepth 40000 in
theorem eX2_readyDay_0_5 (X : px_X) (G : px_H) (f0 : Nat) (g0 : Nat) : px_p (kX2_readyDay X) 0 5 ([some (.ref (f0))], [.ref (g0)], G) =
    px_vb (px_gf G (g0) 2 0) (fun v => px_p (kX2_readyDay X) 0 6 ([some (.ref (f0))], v :: [], G)) := px_sgetf
set_option maxRecDepth 40000 in
theorem eX2_readyDay_49 (X : px_X) (M : Nat → Nat → Int32) (J : Nat → Nat → Int64) (R : Nat → Nat → Option Nat) (c e : Nat) (nL : Nat) (xs : Nat → Int32) (D : px_H) (o0 : Option Value) (w0 : Int32) : px_run (px_mk (kX2_readyDay X)) 49 ([o0], [.int (w0)], (hp M J R c e nL xs D)) =
    some (some (.int (w0)), (hp M J R c e nL xs D)) := (px_run_eq _ _ _).trans rfl
set_option maxRecDepth 40000 in
theorem eX2_readyDay_0_6 (X : px_X) (M : Nat → Nat → Int32) (J : Nat → Nat → Int64) (R : Nat → Nat → Option Nat) (c e : Nat) (nL : Nat) (xs : Nat → Int32) (D : px_H) (f0 : Nat) (w0 : Int32) : px_p (kX2_readyDay X) 0 6 ([some (.ref (f0))], [.int (w0)], (hp M J R c e nL xs D)) =
    cond (decide (w0 < 0))
    (px_run (px_mk (kX2_readyDay X)) 24 ([some (.ref (f0))], [], (hp M J R c e nL xs D)))
    (px_p (kX2_readyDay X) 0 8 ([some (.ref (f0))], [.ref (f0)], (hp M J R c e nL xs D))) := rfl
set_option maxRecDepth 40000 in
theorem eX2_readyDay_0_8 (X : px_X) (G : px_H) (f0 : Nat) (g0 : Nat) : px_p (kX2_readyDay X) 0 8 ([some (.ref (f0))], [.ref (g0)], G) =
    px_vb (px_gf G (g0) 2 0) (fun v => px_p (kX2_readyDay X) 0 9 ([some (.ref (f0))], v :: [], G)) := px_sgetf
set_option maxRecDepth 40000 in
theorem eX2_readyDay_0_9 (X : px_X) (M : Nat → Nat → Int32) (J : Nat → Nat → Int64) (R : Nat → Nat → Option Nat) (c e : Nat) (nL : Nat) (xs : Nat → Int32) (D : px_H) (f0 : Nat) (w0 : Int32) : px_p (kX2_readyDay X) 0 9 ([some (.ref (f0))], [.int (w0)], (hp M J R c e nL xs D)) =
    cond (decide (w0 < 6))
    (px_run (px_mk (kX2_readyDay X)) 28 ([some (.ref (f0))], [], (hp M J R c e nL xs D)))
    (px_run (px_mk (kX2_readyDay X)) 24 ([some (.ref (f0))], [], (hp M J R c e nL xs D))) := rfl
set_option maxRecDepth 40000 in
theorem eX2_readyDay_28 (X : px_X) (M : Nat → Nat → Int32) (J : Nat → Nat → Int64) (R : Nat → Nat → Option Nat) (c e : Nat) (nL : Nat) (xs : Nat → Int32) (D : px_H) (f0 : Nat) : px_run (px_mk (kX2_readyDay X)) 28 ([some (.ref (f0))], [], (hp M J R c e nL xs D)) =
    px_p (kX2_readyDay X) 28 1 ([some (.ref (f0))], [.ref (f0)], (hp M J R c e nL xs D)) := (px_run_eq _ _ _).trans rfl
set_option maxRecDepth 40000 in
theorem eX2_readyDay_28_1 (X : px_X) (G : px_H) (f0 : Nat) (g0 : Nat) : px_p (kX2_readyDay X) 28 1 ([some (.ref (f0))], [.ref (g0)], G) =
    px_vb (px_gf G (g0) 2 8) (fun v => px_p (kX2_readyDay X) 28 2 ([some (.ref (f0))], v :: [], G)) := px_sgetf
set_option maxRecDepth 40000 in
theorem eX2_readyDay_28_2 (X : px_X) (M : Nat → Nat → Int32) (J : Nat → Nat → Int64) (R : Nat → Nat → Option Nat) (c e : Nat) (nL : Nat) (xs : Nat → Int32) (D : px_H) (f0 : Nat) (w0 : Int32) : px_p (kX2_readyDay X) 28 2 ([some (.ref (f0))], [.int (w0)], (hp M J R c e nL xs D)) =
    px_p (kX2_readyDay X) 28 5 ([some (.ref (f0))], [.ref (f0), .ref 2, .int (7), .int (w0)], (hp M J R c e nL xs D)) := rfl
set_option maxRecDepth 40000 in
theorem eX2_readyDay_28_5 (X : px_X) (G : px_H) (f0 : Nat) (w0 : Int32) (w1 : Int32) (g3 : Nat) : px_p (kX2_readyDay X) 28 5 ([some (.ref (f0))], [.ref (g3), .ref 2, .int (w1), .int (w0)], G) =
    px_vb (px_gf G (g3) 2 0) (fun v => px_p (kX2_readyDay X) 28 6 ([some (.ref (f0))], v :: [.ref 2, .int (w1), .int (w0)], G)) := px_sgetf
set_option maxRecDepth 40000 in
theorem eX2_readyDay_28_6 (X : px_X) (M : Nat → Nat → Int32) (J : Nat → Nat → Int64) (R : Nat → Nat → Option Nat) (c e : Nat) (nL : Nat) (xs : Nat → Int32) (D : px_H) (f0 : Nat) (w0 : Int32) (w1 : Int32) (w3 : Int32) : px_p (kX2_readyDay X) 28 6 ([some (.ref (f0))], [.int (w3), .ref 2, .int (w1), .int (w0)], (hp M J R c e nL xs D)) =
    cond (px_inb (w3) 6)
    (px_p (kX2_readyDay X) 28 9 ([some (.ref (f0))], [.ref (f0), .int ((w1 * (px_WK (Int32.toNatClampNeg (w3))))), .int (w0)], (hp M J R c e nL xs D))) none := rfl
set_option maxRecDepth 40000 in
theorem eX2_readyDay_28_9 (X : px_X) (G : px_H) (f0 : Nat) (w0 : Int32) (w1 : Int32) (g2 : Nat) : px_p (kX2_readyDay X) 28 9 ([some (.ref (f0))], [.ref (g2), .int (w1), .int (w0)], G) =
    px_vb (px_gf G (g2) 2 3) (fun v => px_p (kX2_readyDay X) 28 10 ([some (.ref (f0))], v :: [.int (w1), .int (w0)], G)) := px_sgetf
set_option maxRecDepth 40000 in
theorem eX2_readyDay_28_10 (X : px_X) (M : Nat → Nat → Int32) (J : Nat → Nat → Int64) (R : Nat → Nat → Option Nat) (c e : Nat) (nL : Nat) (xs : Nat → Int32) (D : px_H) (f0 : Nat) (w0 : Int32) (w1 : Int32) (w2 : Int32) : px_p (kX2_readyDay X) 28 10 ([some (.ref (f0))], [.int (w2), .int (w1), .int (w0)], (hp M J R c e nL xs D)) =
    px_run (px_mk (kX2_readyDay X)) 49 ([some (.ref (f0))], [.int ((w0 + (w1 * w2)))], (hp M J R c e nL xs D)) := rfl
set_option maxRecDepth 40000 in
theorem eX2_goInto_0 (X : px_X) (M : Nat → Nat → Int32) (J : Nat → Nat → Int64) (R : Nat → Nat → Option Nat) (c e : Nat) (nL : Nat) (xs : Nat → Int32) (D : px_H) (f0 : Nat) (v1 : Int32) (v2 : Int32) : px_run (px_mk (kX2_goInto X)) 0 ([some (.ref (f0)), some (.int (v1)), some (.int (v2))], [], (hp M J R c e nL xs D)) =
    px_p (kX2_goInto X) 0 2 ([some (.ref (f0)), some (.int (v1)), some (.int (v2))], [.int (0), .ref (f0)], (hp M J R c e nL xs D)) := (px_run_eq _ _ _).trans rfl
set_option maxRecDepth 40000 in
theorem eX2_goInto_0_2 (X : px_X) (G : px_H) (f0 : Nat) (v1 : Int32) (v2 : Int32) (g0 : Nat) (w1 : Int32) : px_p (kX2_goInto X) 0 2 ([some (.ref (f0)), some (.int (v1)), some (.int (v2))], [.int (w1), .ref (g0)], G) =
    cond (decide (w1 = 0) || decide (w1 = 1)) (px_wb (px_pf G (g0) 2 6 (.int (w1))) (fun G1 => px_p (kX2_goInto X) 0 3 ([some (.ref (f0)), some (.int (v1)), some (.int (v2))], [], G1))) none := px_sputz
set_option maxRecDepth 40000 in
theorem eX2_goInto_0_3 (X : px_X) (M : Nat → Nat → Int32) (J : Nat → Nat → Int64) (R : Nat → Nat → Option Nat) (c e : Nat) (nL : Nat) (xs : Nat → Int32) (D : px_H) (f0 : Nat) (v1 : Int32) (v2 : Int32) : px_p (kX2_goInto X) 0 3 ([some (.ref (f0)), some (.int (v1)), some (.int (v2))], [], (hp M J R c e nL xs D)) =
    px_p (kX2_goInto X) 0 5 ([some (.ref (f0)), some (.int (v1)), some (.int (v2))], [.int (v1), .ref (f0)], (hp M J R c e nL xs D)) := rfl
set_option maxRecDepth 40000 in
theorem eX2_goInto_0_5 (X : px_X) (G : px_H) (f0 : Nat) (v1 : Int32) (v2 : Int32) (g0 : Nat) (w1 : Int32) : px_p (kX2_goInto X) 0 5 ([some (.ref (f0)), some (.int (v1)), some (.int (v2))], [.int (w1), .ref (g0)], G) =
    px_wb (px_pf G (g0) 2 7 (.int (w1))) (fun G1 => px_p (kX2_goInto X) 0 6 ([some (.ref (f0)), some (.int (v1)), some (.int (v2))], [], G1)) := px_sputi
set_option maxRecDepth 40000 in
theorem eX2_goInto_0_6 (X : px_X) (M : Nat → Nat → Int32) (J : Nat → Nat → Int64) (R : Nat → Nat → Option Nat) (c e : Nat) (nL : Nat) (xs : Nat → Int32) (D : px_H) (f0 : Nat) (v1 : Int32) (v2 : Int32) : px_p (kX2_goInto X) 0 6 ([some (.ref (f0)), some (.int (v1)), some (.int (v2))], [], (hp M J R c e nL xs D)) =
    px_p (kX2_goInto X) 0 8 ([some (.ref (f0)), some (.int (v1)), some (.int (v2))], [.int (v2), .ref (f0)], (hp M J R c e nL xs D)) := rfl
set_option maxRecDepth 40000 in
theorem eX2_goInto_0_8 (X : px_X) (G : px_H) (f0 : Nat) (v1 : Int32) (v2 : Int32) (g0 : Nat) (w1 : Int32) : px_p (kX2_goInto X) 0 8 ([some (.ref (f0)), some (.int (v1)), some (.int (v2))], [.int (w1), .ref (g0)], G) =
    px_wb (px_pf G (g0) 2 8 (.int (w1))) (fun G1 => px_p (kX2_goInto X) 0 9 ([some (.ref (f0)), some (.int (v1)), some (.int (v2))], [], G1)) := px_sputi
set_option maxRecDepth 40000 in
theorem eX2_goInto_0_9 (X : px_X) (M : Nat → Nat → Int32) (J : Nat → Nat → Int64) (R : Nat → Nat → Option Nat) (c e : Nat) (nL : Nat) (xs : Nat → Int32) (D : px_H) (f0 : Nat) (v1 : Int32) (v2 : Int32) : px_p (kX2_goInto X) 0 9 ([some (.ref (f0)), some (.int (v1)), some (.int (v2))], [], (hp M J R c e nL xs D)) =
    some (none, (hp M J R c e nL xs D)) := rfl
set_option maxRecDepth 40000 in
theorem eX2_goOut_0 (X : px_X) (M : Nat → Nat → Int32) (J : Nat → Nat → Int64) (R : Nat → Nat → Option Nat) (c e : Nat) (nL : Nat) (xs : Nat → Int32) (D : px_H) (f0 : Nat) : px_run (px_mk (kX2_goOut X)) 0 ([some (.ref (f0))], [], (hp M J R c e nL xs D)) =
    px_p (kX2_goOut X) 0 2 ([some (.ref (f0))], [.int ((-1)), .ref (f0)], (hp M J R c e nL xs D)) := (px_run_eq _ _ _).trans rfl
set_option maxRecDepth 40000 in
theorem eX2_goOut_0_2 (X : px_X) (G : px_H) (f0 : Nat) (g0 : Nat) (w1 : Int32) : px_p (kX2_goOut X) 0 2 ([some (.ref (f0))], [.int (w1), .ref (g0)], G) =
    px_wb (px_pf G (g0) 2 7 (.int (w1))) (fun G1 => px_p (kX2_goOut X) 0 3 ([some (.ref (f0))], [], G1)) := px_sputi
set_option maxRecDepth 40000 in
theorem eX2_goOut_0_3 (X : px_X) (M : Nat → Nat → Int32) (J : Nat → Nat → Int64) (R : Nat → Nat → Option Nat) (c e : Nat) (nL : Nat) (xs : Nat → Int32) (D : px_H) (f0 : Nat) : px_p (kX2_goOut X) 0 3 ([some (.ref (f0))], [], (hp M J R c e nL xs D)) =
    px_p (kX2_goOut X) 0 5 ([some (.ref (f0))], [.int ((-1)), .ref (f0)], (hp M J R c e nL xs D)) := rfl
set_option maxRecDepth 40000 in
theorem eX2_goOut_0_5 (X : px_X) (G : px_H) (f0 : Nat) (g0 : Nat) (w1 : Int32) : px_p (kX2_goOut X) 0 5 ([some (.ref (f0))], [.int (w1), .ref (g0)], G) =
    px_wb (px_pf G (g0) 2 8 (.int (w1))) (fun G1 => px_p (kX2_goOut X) 0 6 ([some (.ref (f0))], [], G1)) := px_sputi
set_option maxRecDepth 40000 in
theorem eX2_goOut_0_6 (X : px_X) (M : Nat → Nat → Int32) (J : Nat → Nat → Int64) (R : Nat → Nat → Option Nat) (c e : Nat) (nL : Nat) (xs : Nat → Int32) (D : px_H) (f0 : Nat) : px_p (kX2_goOut X) 0 6 ([some (.ref (f0))], [], (hp M J R c e nL xs D)) =
    some (none, (hp M J R c e nL xs D)) := rfl
