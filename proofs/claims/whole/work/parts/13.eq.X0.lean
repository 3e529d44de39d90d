/-! block equations over the fixed layout (written by wip/whole/seg.py) -/
set_option maxRecDepth 40000 in
theorem eX0_init_0 (X : px_X) (M : Nat → Nat → Int32) (J : Nat → Nat → Int64) (R : Nat → Nat → Option Nat) (c e : Nat) (nL : Nat) (xs : Nat → Int32) (D : px_H) (f0 : Nat) (v1 : Int32) (v2 : Int32) (v3 : Int32) (v4 : Int32) (v5 : Int32) : px_run (px_mk (kX0_init X)) 0 ([some (.ref (f0)), some (.int (v1)), some (.int (v2)), some (.int (v3)), some (.int (v4)), some (.int (v5))], [], (hp M J R c e nL xs D)) =
    px_p (kX0_init X) 0 4 ([some (.ref (f0)), some (.int (v1)), some (.int (v2)), some (.int (v3)), some (.int (v4)), some (.int (v5))], [.int (v1), .ref (f0)], (hp M J R c e nL xs D)) := (px_run_eq _ _ _).trans rfl
set_option maxRecDepth 40000 in
theorem eX0_init_0_4 (X : px_X) (G : px_H) (f0 : Nat) (v1 : Int32) (v2 : Int32) (v3 : Int32) (v4 : Int32) (v5 : Int32) (g0 : Nat) (w1 : Int32) : px_p (kX0_init X) 0 4 ([some (.ref (f0)), some (.int (v1)), some (.int (v2)), some (.int (v3)), some (.int (v4)), some (.int (v5))], [.int (w1), .ref (g0)], G) =
    px_wb (px_pf G (g0) 0 0 (.int (w1))) (fun G1 => px_p (kX0_init X) 0 5 ([some (.ref (f0)), some (.int (v1)), some (.int (v2)), some (.int (v3)), some (.int (v4)), some (.int (v5))], [], G1)) := px_sputi
set_option maxRecDepth 40000 in
theorem eX0_init_0_5 (X : px_X) (M : Nat → Nat → Int32) (J : Nat → Nat → Int64) (R : Nat → Nat → Option Nat) (c e : Nat) (nL : Nat) (xs : Nat → Int32) (D : px_H) (f0 : Nat) (v1 : Int32) (v2 : Int32) (v3 : Int32) (v4 : Int32) (v5 : Int32) : px_p (kX0_init X) 0 5 ([some (.ref (f0)), some (.int (v1)), some (.int (v2)), some (.int (v3)), some (.int (v4)), some (.int (v5))], [], (hp M J R c e nL xs D)) =
    px_p (kX0_init X) 0 7 ([some (.ref (f0)), some (.int (v1)), some (.int (v2)), some (.int (v3)), some (.int (v4)), some (.int (v5))], [.int (v2), .ref (f0)], (hp M J R c e nL xs D)) := rfl
set_option maxRecDepth 40000 in
theorem eX0_init_0_7 (X : px_X) (G : px_H) (f0 : Nat) (v1 : Int32) (v2 : Int32) (v3 : Int32) (v4 : Int32) (v5 : Int32) (g0 : Nat) (w1 : Int32) : px_p (kX0_init X) 0 7 ([some (.ref (f0)), some (.int (v1)), some (.int (v2)), some (.int (v3)), some (.int (v4)), some (.int (v5))], [.int (w1), .ref (g0)], G) =
    px_wb (px_pf G (g0) 0 1 (.int (w1))) (fun G1 => px_p (kX0_init X) 0 8 ([some (.ref (f0)), some (.int (v1)), some (.int (v2)), some (.int (v3)), some (.int (v4)), some (.int (v5))], [], G1)) := px_sputi
set_option maxRecDepth 40000 in
theorem eX0_init_0_8 (X : px_X) (M : Nat → Nat → Int32) (J : Nat → Nat → Int64) (R : Nat → Nat → Option Nat) (c e : Nat) (nL : Nat) (xs : Nat → Int32) (D : px_H) (f0 : Nat) (v1 : Int32) (v2 : Int32) (v3 : Int32) (v4 : Int32) (v5 : Int32) : px_p (kX0_init X) 0 8 ([some (.ref (f0)), some (.int (v1)), some (.int (v2)), some (.int (v3)), some (.int (v4)), some (.int (v5))], [], (hp M J R c e nL xs D)) =
    px_p (kX0_init X) 0 10 ([some (.ref (f0)), some (.int (v1)), some (.int (v2)), some (.int (v3)), some (.int (v4)), some (.int (v5))], [.int (v3), .ref (f0)], (hp M J R c e nL xs D)) := rfl
set_option maxRecDepth 40000 in
theorem eX0_init_0_10 (X : px_X) (G : px_H) (f0 : Nat) (v1 : Int32) (v2 : Int32) (v3 : Int32) (v4 : Int32) (v5 : Int32) (g0 : Nat) (w1 : Int32) : px_p (kX0_init X) 0 10 ([some (.ref (f0)), some (.int (v1)), some (.int (v2)), some (.int (v3)), some (.int (v4)), some (.int (v5))], [.int (w1), .ref (g0)], G) =
    px_wb (px_pf G (g0) 0 2 (.int (w1))) (fun G1 => px_p (kX0_init X) 0 11 ([some (.ref (f0)), some (.int (v1)), some (.int (v2)), some (.int (v3)), some (.int (v4)), some (.int (v5))], [], G1)) := px_sputi
set_option maxRecDepth 40000 in
theorem eX0_init_0_11 (X : px_X) (M : Nat → Nat → Int32) (J : Nat → Nat → Int64) (R : Nat → Nat → Option Nat) (c e : Nat) (nL : Nat) (xs : Nat → Int32) (D : px_H) (f0 : Nat) (v1 : Int32) (v2 : Int32) (v3 : Int32) (v4 : Int32) (v5 : Int32) : px_p (kX0_init X) 0 11 ([some (.ref (f0)), some (.int (v1)), some (.int (v2)), some (.int (v3)), some (.int (v4)), some (.int (v5))], [], (hp M J R c e nL xs D)) =
    px_p (kX0_init X) 0 13 ([some (.ref (f0)), some (.int (v1)), some (.int (v2)), some (.int (v3)), some (.int (v4)), some (.int (v5))], [.int (v4), .ref (f0)], (hp M J R c e nL xs D)) := rfl
set_option maxRecDepth 40000 in
theorem eX0_init_0_13 (X : px_X) (G : px_H) (f0 : Nat) (v1 : Int32) (v2 : Int32) (v3 : Int32) (v4 : Int32) (v5 : Int32) (g0 : Nat) (w1 : Int32) : px_p (kX0_init X) 0 13 ([some (.ref (f0)), some (.int (v1)), some (.int (v2)), some (.int (v3)), some (.int (v4)), some (.int (v5))], [.int (w1), .ref (g0)], G) =
    px_wb (px_pf G (g0) 0 3 (.int (w1))) (fun G1 => px_p (kX0_init X) 0 14 ([some (.ref (f0)), some (.int (v1)), some (.int (v2)), some (.int (v3)), some (.int (v4)), some (.int (v5))], [], G1)) := px_sputi
set_option maxRecDepth 40000 in
theorem eX0_init_0_14 (X : px_X) (M : Nat → Nat → Int32) (J : Nat → Nat → Int64) (R : Nat → Nat → Option Nat) (c e : Nat) (nL : Nat) (xs : Nat → Int32) (D : px_H) (f0 : Nat) (v1 : Int32) (v2 : Int32) (v3 : Int32) (v4 : Int32) (v5 : Int32) : px_p (kX0_init X) 0 14 ([some (.ref (f0)), some (.int (v1)), some (.int (v2)), some (.int (v3)), some (.int (v4)), some (.int (v5))], [], (hp M J R c e nL xs D)) =
    px_p (kX0_init X) 0 16 ([some (.ref (f0)), some (.int (v1)), some (.int (v2)), some (.int (v3)), some (.int (v4)), some (.int (v5))], [.int (v5), .ref (f0)], (hp M J R c e nL xs D)) := rfl
set_option maxRecDepth 40000 in
theorem eX0_init_0_16 (X : px_X) (G : px_H) (f0 : Nat) (v1 : Int32) (v2 : Int32) (v3 : Int32) (v4 : Int32) (v5 : Int32) (g0 : Nat) (w1 : Int32) : px_p (kX0_init X) 0 16 ([some (.ref (f0)), some (.int (v1)), some (.int (v2)), some (.int (v3)), some (.int (v4)), some (.int (v5))], [.int (w1), .ref (g0)], G) =
    px_wb (px_pf G (g0) 0 4 (.int (w1))) (fun G1 => px_p (kX0_init X) 0 17 ([some (.ref (f0)), some (.int (v1)), some (.int (v2)), some (.int (v3)), some (.int (v4)), some (.int (v5))], [], G1)) := px_sputi
set_option maxRecDepth 40000 in
theorem eX0_init_0_17 (X : px_X) (M : Nat → Nat → Int32) (J : Nat → Nat → Int64) (R : Nat → Nat → Option Nat) (c e : Nat) (nL : Nat) (xs : Nat → Int32) (D : px_H) (f0 : Nat) (v1 : Int32) (v2 : Int32) (v3 : Int32) (v4 : Int32) (v5 : Int32) : px_p (kX0_init X) 0 17 ([some (.ref (f0)), some (.int (v1)), some (.int (v2)), some (.int (v3)), some (.int (v4)), some (.int (v5))], [], (hp M J R c e nL xs D)) =
    some (none, (hp M J R c e nL xs D)) := rfl
set_option maxRecDepth 40000 in
theorem eX0_end_0 (X : px_X) (M : Nat → Nat → Int32) (J : Nat → Nat → Int64) (R : Nat → Nat → Option Nat) (c e : Nat) (nL : Nat) (xs : Nat → Int32) (D : px_H) (f0 : Nat) : px_run (px_mk (kX0_end X)) 0 ([some (.ref (f0))], [], (hp M J R c e nL xs D)) =
    px_p (kX0_end X) 0 1 ([some (.ref (f0))], [.ref (f0)], (hp M J R c e nL xs D)) := (px_run_eq _ _ _).trans rfl
set_option maxRecDepth 40000 in
theorem eX0_end_0_1 (X : px_X) (G : px_H) (f0 : Nat) (g0 : Nat) : px_p (kX0_end X) 0 1 ([some (.ref (f0))], [.ref (g0)], G) =
    px_vb (px_gf G (g0) 0 2) (fun v => px_p (kX0_end X) 0 2 ([some (.ref (f0))], v :: [], G)) := px_sgetf
set_option maxRecDepth 40000 in
theorem eX0_end_0_2 (X : px_X) (M : Nat → Nat → Int32) (J : Nat → Nat → Int64) (R : Nat → Nat → Option Nat) (c e : Nat) (nL : Nat) (xs : Nat → Int32) (D : px_H) (f0 : Nat) (w0 : Int32) : px_p (kX0_end X) 0 2 ([some (.ref (f0))], [.int (w0)], (hp M J R c e nL xs D)) =
    px_p (kX0_end X) 0 3 ([some (.ref (f0))], [.ref (f0), .int (w0)], (hp M J R c e nL xs D)) := rfl
set_option maxRecDepth 40000 in
theorem eX0_end_0_3 (X : px_X) (G : px_H) (f0 : Nat) (w0 : Int32) (g1 : Nat) : px_p (kX0_end X) 0 3 ([some (.ref (f0))], [.ref (g1), .int (w0)], G) =
    px_vb (px_gf G (g1) 0 4) (fun v => px_p (kX0_end X) 0 4 ([some (.ref (f0))], v :: [.int (w0)], G)) := px_sgetf
set_option maxRecDepth 40000 in
theorem eX0_end_0_4 (X : px_X) (M : Nat → Nat → Int32) (J : Nat → Nat → Int64) (R : Nat → Nat → Option Nat) (c e : Nat) (nL : Nat) (xs : Nat → Int32) (D : px_H) (f0 : Nat) (w0 : Int32) (w1 : Int32) : px_p (kX0_end X) 0 4 ([some (.ref (f0))], [.int (w1), .int (w0)], (hp M J R c e nL xs D)) =
    some (some (.int ((w0 + w1))), (hp M J R c e nL xs D)) := rfl
set_option maxRecDepth 40000 in
theorem eX0_has_0 (X : px_X) (M : Nat → Nat → Int32) (J : Nat → Nat → Int64) (R : Nat → Nat → Option Nat) (c e : Nat) (nL : Nat) (xs : Nat → Int32) (D : px_H) (f0 : Nat) (v1 : Int32) : px_run (px_mk (kX0_has X)) 0 ([some (.ref (f0)), some (.int (v1))], [], (hp M J R c e nL xs D)) =
    px_p (kX0_has X) 0 1 ([some (.ref (f0)), some (.int (v1))], [.ref (f0)], (hp M J R c e nL xs D)) := (px_run_eq _ _ _).trans rfl
set_option maxRecDepth 40000 in
theorem eX0_has_0_1 (X : px_X) (G : px_H) (f0 : Nat) (v1 : Int32) (g0 : Nat) : px_p (kX0_has X) 0 1 ([some (.ref (f0)), some (.int (v1))], [.ref (g0)], G) =
    px_vb (px_gf G (g0) 0 0) (fun v => px_p (kX0_has X) 0 2 ([some (.ref (f0)), some (.int (v1))], v :: [], G)) := px_sgetf
set_option maxRecDepth 40000 in
theorem eX0_has_0_2 (X : px_X) (M : Nat → Nat → Int32) (J : Nat → Nat → Int64) (R : Nat → Nat → Option Nat) (c e : Nat) (nL : Nat) (xs : Nat → Int32) (D : px_H) (f0 : Nat) (v1 : Int32) (w0 : Int32) : px_p (kX0_has X) 0 2 ([some (.ref (f0)), some (.int (v1))], [.int (w0)], (hp M J R c e nL xs D)) =
    cond (decide (w0 = v1))
    (px_run (px_mk (kX0_has X)) 16 ([some (.ref (f0)), some (.int (v1))], [], (hp M J R c e nL xs D)))
    (px_p (kX0_has X) 0 5 ([some (.ref (f0)), some (.int (v1))], [.ref (f0)], (hp M J R c e nL xs D))) := rfl
set_option maxRecDepth 40000 in
theorem eX0_has_16 (X : px_X) (M : Nat → Nat → Int32) (J : Nat → Nat → Int64) (R : Nat → Nat → Option Nat) (c e : Nat) (nL : Nat) (xs : Nat → Int32) (D : px_H) (o0 : Option Value) (o1 : Option Value) : px_run (px_mk (kX0_has X)) 16 ([o0, o1], [], (hp M J R c e nL xs D)) =
    px_run (px_mk (kX0_has X)) 21 ([none, none], [.int (1)], (hp M J R c e nL xs D)) := (px_run_eq _ _ _).trans rfl
set_option maxRecDepth 40000 in
theorem eX0_has_0_5 (X : px_X) (G : px_H) (f0 : Nat) (v1 : Int32) (g0 : Nat) : px_p (kX0_has X) 0 5 ([some (.ref (f0)), some (.int (v1))], [.ref (g0)], G) =
    px_vb (px_gf G (g0) 0 1) (fun v => px_p (kX0_has X) 0 6 ([some (.ref (f0)), some (.int (v1))], v :: [], G)) := px_sgetf
set_option maxRecDepth 40000 in
theorem eX0_has_21 (X : px_X) (M : Nat → Nat → Int32) (J : Nat → Nat → Int64) (R : Nat → Nat → Option Nat) (c e : Nat) (nL : Nat) (xs : Nat → Int32) (D : px_H) (o0 : Option Value) (o1 : Option Value) (w0 : Int32) : px_run (px_mk (kX0_has X)) 21 ([o0, o1], [.int (w0)], (hp M J R c e nL xs D)) =
    cond (decide (w0 = 0) || decide (w0 = 1)) (some (some (.int (w0)), (hp M J R c e nL xs D))) none := (px_run_eq _ _ _).trans rfl
set_option maxRecDepth 40000 in
theorem eX0_has_0_6 (X : px_X) (M : Nat → Nat → Int32) (J : Nat → Nat → Int64) (R : Nat → Nat → Option Nat) (c e : Nat) (nL : Nat) (xs : Nat → Int32) (D : px_H) (f0 : Nat) (v1 : Int32) (w0 : Int32) : px_p (kX0_has X) 0 6 ([some (.ref (f0)), some (.int (v1))], [.int (w0)], (hp M J R c e nL xs D)) =
    cond (decide (¬ w0 = v1))
    (px_run (px_mk (kX0_has X)) 20 ([some (.ref (f0)), some (.int (v1))], [], (hp M J R c e nL xs D)))
    (px_run (px_mk (kX0_has X)) 16 ([some (.ref (f0)), some (.int (v1))], [], (hp M J R c e nL xs D))) := rfl
set_option maxRecDepth 40000 in
theorem eX0_has_20 (X : px_X) (M : Nat → Nat → Int32) (J : Nat → Nat → Int64) (R : Nat → Nat → Option Nat) (c e : Nat) (nL : Nat) (xs : Nat → Int32) (D : px_H) (o0 : Option Value) (o1 : Option Value) : px_run (px_mk (kX0_has X)) 20 ([o0, o1], [], (hp M J R c e nL xs D)) =
    px_run (px_mk (kX0_has X)) 21 ([none, none], [.int (0)], (hp M J R c e nL xs D)) := (px_run_eq _ _ _).trans rfl
set_option maxRecDepth 40000 in
theorem eX0_meets_0 (X : px_X) (M : Nat → Nat → Int32) (J : Nat → Nat → Int64) (R : Nat → Nat → Option Nat) (c e : Nat) (nL : Nat) (xs : Nat → Int32) (D : px_H) (f0 : Nat) (v1 : Int32) (v2 : Int32) : px_run (px_mk (kX0_meets X)) 0 ([some (.ref (f0)), some (.int (v1)), some (.int (v2))], [], (hp M J R c e nL xs D)) =
    px_p (kX0_meets X) 0 1 ([some (.ref (f0)), some (.int (v1)), some (.int (v2))], [.ref (f0)], (hp M J R c e nL xs D)) := (px_run_eq _ _ _).trans rfl
set_option maxRecDepth 40000 in
theorem eX0_meets_0_1 (X : px_X) (G : px_H) (f0 : Nat) (v1 : Int32) (v2 : Int32) (g0 : Nat) : px_p (kX0_meets X) 0 1 ([some (.ref (f0)), some (.int (v1)), some (.int (v2))], [.ref (g0)], G) =
    px_vb (px_gf G (g0) 0 2) (fun v => px_p (kX0_meets X) 0 2 ([some (.ref (f0)), some (.int (v1)), some (.int (v2))], v :: [], G)) := px_sgetf
set_option maxRecDepth 40000 in
theorem eX0_meets_0_2 (X : px_X) (M : Nat → Nat → Int32) (J : Nat → Nat → Int64) (R : Nat → Nat → Option Nat) (c e : Nat) (nL : Nat) (xs : Nat → Int32) (D : px_H) (f0 : Nat) (v1 : Int32) (v2 : Int32) (w0 : Int32) : px_p (kX0_meets X) 0 2 ([some (.ref (f0)), some (.int (v1)), some (.int (v2))], [.int (w0)], (hp M J R c e nL xs D)) =
    cond (decide (v2 < w0))
    (px_run (px_mk (kX0_meets X)) 20 ([some (.ref (f0)), some (.int (v1)), some (.int (v2))], [], (hp M J R c e nL xs D)))
    (px_p (kX0_meets X) 0 6 ([some (.ref (f0)), some (.int (v1)), some (.int (v2))], [.ref (f0), .int (v1)], (hp M J R c e nL xs D))) := rfl
set_option maxRecDepth 40000 in
theorem eX0_meets_20 (X : px_X) (M : Nat → Nat → Int32) (J : Nat → Nat → Int64) (R : Nat → Nat → Option Nat) (c e : Nat) (nL : Nat) (xs : Nat → Int32) (D : px_H) (o0 : Option Value) (o1 : Option Value) (o2 : Option Value) : px_run (px_mk (kX0_meets X)) 20 ([o0, o1, o2], [], (hp M J R c e nL xs D)) =
    px_run (px_mk (kX0_meets X)) 21 ([none, none, none], [.int (0)], (hp M J R c e nL xs D)) := (px_run_eq _ _ _).trans rfl
set_option maxRecDepth 40000 in
theorem eX0_meets_0_6 (X : px_X) (G : px_H) (f0 : Nat) (v1 : Int32) (v2 : Int32) (w0 : Int32) (g1 : Nat) : px_p (kX0_meets X) 0 6 ([some (.ref (f0)), some (.int (v1)), some (.int (v2))], [.ref (g1), .int (w0)], G) =
    cond (px_isc G (g1) 0)
    (px_bd (X 1 [.ref (g1)] G)
    (fun v G1 => px_p (kX0_meets X) 0 7 ([some (.ref (f0)), some (.int (v1)), some (.int (v2))], px_psh v [.int (w0)], G1))) none := px_scallV rfl rfl rfl rfl
set_option maxRecDepth 40000 in
theorem eX0_meets_21 (X : px_X) (M : Nat → Nat → Int32) (J : Nat → Nat → Int64) (R : Nat → Nat → Option Nat) (c e : Nat) (nL : Nat) (xs : Nat → Int32) (D : px_H) (o0 : Option Value) (o1 : Option Value) (o2 : Option Value) (w0 : Int32) : px_run (px_mk (kX0_meets X)) 21 ([o0, o1, o2], [.int (w0)], (hp M J R c e nL xs D)) =
    cond (decide (w0 = 0) || decide (w0 = 1)) (some (some (.int (w0)), (hp M J R c e nL xs D))) none := (px_run_eq _ _ _).trans rfl
set_option maxRecDepth 40000 in
theorem eX0_meets_0_7 (X : px_X) (M : Nat → Nat → Int32) (J : Nat → Nat → Int64) (R : Nat → Nat → Option Nat) (c e : Nat) (nL : Nat) (xs : Nat → Int32) (D : px_H) (f0 : Nat) (v1 : Int32) (v2 : Int32) (w0 : Int32) (w1 : Int32) : px_p (kX0_meets X) 0 7 ([some (.ref (f0)), some (.int (v1)), some (.int (v2))], [.int (w1), .int (w0)], (hp M J R c e nL xs D)) =
    cond (decide (w1 < w0))
    (px_run (px_mk (kX0_meets X)) 20 ([some (.ref (f0)), some (.int (v1)), some (.int (v2))], [], (hp M J R c e nL xs D)))
    (px_run (px_mk (kX0_meets X)) 21 ([some (.ref (f0)), some (.int (v1)), some (.int (v2))], [.int (1)], (hp M J R c e nL xs D))) := rfl
