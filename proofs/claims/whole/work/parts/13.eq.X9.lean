/-! block equations over the fixed layout (written by wip/whole/seg.py) -/
set_option maxRecDepth 40000 in
theorem eX9_init_0 (X : px_X) (M : Nat → Nat → Int32) (J : Nat → Nat → Int64) (R : Nat → Nat → Option Nat) (c e : Nat) (nL : Nat) (xs : Nat → Int32) (D : px_H)  : px_run (px_mk (kX9_init X)) 0 ([some (.ref 58)], [], (hp M J R c e nL xs D)) =
    some (none, (hp (px_uR M 58 (upd (upd (M 58) 0 (0)) 1 (0))) J R c e nL xs D)) := (px_run_eq _ _ _).trans rfl
set_option maxRecDepth 40000 in
theorem eX9_openHatches_0 (X : px_X) (M : Nat → Nat → Int32) (J : Nat → Nat → Int64) (R : Nat → Nat → Option Nat) (c e : Nat) (nL : Nat) (xs : Nat → Int32) (D : px_H) (v1 : Int32) : px_run (px_mk (kX9_openHatches X)) 0 ([some (.ref 58), some (.int (v1)), none], [], (hp M J R c e nL xs D)) =
    cond (decide ((v1 &&& (-31)) = 0))
    (px_run (px_mk (kX9_openHatches X)) 10 ([some (.ref 58), some (.int (v1)), none], [], (hp M J R c e nL xs D)))
    (some (some (.int ((-2))), (hp M J R c e nL xs D))) := (px_run_eq _ _ _).trans rfl
set_option maxRecDepth 40000 in
theorem eX9_openHatches_10 (X : px_X) (M : Nat → Nat → Int32) (J : Nat → Nat → Int64) (R : Nat → Nat → Option Nat) (c e : Nat) (nL : Nat) (xs : Nat → Int32) (D : px_H) (v1 : Int32) (o2 : Option Value) : px_run (px_mk (kX9_openHatches X)) 10 ([some (.ref 58), some (.int (v1)), o2], [], (hp M J R c e nL xs D)) =
    some (some (.int (M 58 0)), (hp (px_uR M 58 (upd (M 58) 0 (v1))) J R c e nL xs D)) := (px_run_eq _ _ _).trans rfl
set_option maxRecDepth 40000 in
theorem eX9_changeRoll_0 (X : px_X) (M : Nat → Nat → Int32) (J : Nat → Nat → Int64) (R : Nat → Nat → Option Nat) (c e : Nat) (nL : Nat) (xs : Nat → Int32) (D : px_H) (v1 : Int32) : px_run (px_mk (kX9_changeRoll X)) 0 ([some (.ref 58), some (.int (v1)), none], [], (hp M J R c e nL xs D)) =
    cond (decide (v1 < (-9)))
    (px_run (px_mk (kX9_changeRoll X)) 12 ([some (.ref 58), some (.int (v1)), none], [], (hp M J R c e nL xs D)))
    (cond (decide (v1 ≤ 9))
    (px_run (px_mk (kX9_changeRoll X)) 15 ([some (.ref 58), some (.int (v1)), none], [], (hp M J R c e nL xs D)))
    (px_run (px_mk (kX9_changeRoll X)) 12 ([some (.ref 58), some (.int (v1)), none], [], (hp M J R c e nL xs D)))) := (px_run_eq _ _ _).trans rfl
set_option maxRecDepth 40000 in
theorem eX9_changeRoll_12 (X : px_X) (M : Nat → Nat → Int32) (J : Nat → Nat → Int64) (R : Nat → Nat → Option Nat) (c e : Nat) (nL : Nat) (xs : Nat → Int32) (D : px_H) (o0 : Option Value) (o1 : Option Value) (o2 : Option Value) : px_run (px_mk (kX9_changeRoll X)) 12 ([o0, o1, o2], [], (hp M J R c e nL xs D)) =
    some (some (.int ((-2))), (hp M J R c e nL xs D)) := (px_run_eq _ _ _).trans rfl
set_option maxRecDepth 40000 in
theorem eX9_changeRoll_15 (X : px_X) (M : Nat → Nat → Int32) (J : Nat → Nat → Int64) (R : Nat → Nat → Option Nat) (c e : Nat) (nL : Nat) (xs : Nat → Int32) (D : px_H) (v1 : Int32) (o2 : Option Value) : px_run (px_mk (kX9_changeRoll X)) 15 ([some (.ref 58), some (.int (v1)), o2], [], (hp M J R c e nL xs D)) =
    some (some (.int (M 58 1)), (hp (px_uR M 58 (upd (M 58) 1 (v1))) J R c e nL xs D)) := (px_run_eq _ _ _).trans rfl
set_option maxRecDepth 40000 in
theorem eX9_ways_0 (X : px_X) (M : Nat → Nat → Int32) (J : Nat → Nat → Int64) (R : Nat → Nat → Option Nat) (c e : Nat) (nL : Nat) (xs : Nat → Int32) (D : px_H) (f1 : Nat) : px_run (px_mk (kX9_ways X)) 0 ([some (.ref 58), some (.ref (f1)), none, none], [], (hp M J R c e nL xs D)) =
    px_run (px_mk (kX9_ways X)) 4 ([some (.ref 58), some (.ref (f1)), some (.int (0)), some (.int (0))], [], (hp M J R c e nL xs D)) := (px_run_eq _ _ _).trans rfl
set_option maxRecDepth 40000 in
theorem eX9_ways_4 (X : px_X) (M : Nat → Nat → Int32) (J : Nat → Nat → Int64) (R : Nat → Nat → Option Nat) (c e : Nat) (nL : Nat) (xs : Nat → Int32) (D : px_H) (f1 : Nat) (v2 : Int32) (v3 : Int32) : px_run (px_mk (kX9_ways X)) 4 ([some (.ref 58), some (.ref (f1)), some (.int (v2)), some (.int (v3))], [], (hp M J R c e nL xs D)) =
    cond (decide (5 ≤ v3))
    (px_run (px_mk (kX9_ways X)) 28 ([some (.ref 58), some (.ref (f1)), some (.int (v2)), some (.int (v3))], [], (hp M J R c e nL xs D)))
    (px_bd (X 107 [.ref 58, .int (v3), .ref (f1)] (hp M J R c e nL xs D))
    (fun v G1 => px_p (kX9_ways X) 4 7 ([some (.ref 58), some (.ref (f1)), some (.int (v2)), some (.int (v3))], px_psh v [], G1))) := (px_run_eq _ _ _).trans rfl
set_option maxRecDepth 40000 in
theorem eX9_ways_28 (X : px_X) (M : Nat → Nat → Int32) (J : Nat → Nat → Int64) (R : Nat → Nat → Option Nat) (c e : Nat) (nL : Nat) (xs : Nat → Int32) (D : px_H) (o0 : Option Value) (o1 : Option Value) (v2 : Int32) (o3 : Option Value) : px_run (px_mk (kX9_ways X)) 28 ([o0, o1, some (.int (v2)), o3], [], (hp M J R c e nL xs D)) =
    some (some (.int (v2)), (hp M J R c e nL xs D)) := (px_run_eq _ _ _).trans rfl
set_option maxRecDepth 40000 in
theorem eX9_ways_4_7 (X : px_X) (M : Nat → Nat → Int32) (J : Nat → Nat → Int64) (R : Nat → Nat → Option Nat) (c e : Nat) (nL : Nat) (xs : Nat → Int32) (D : px_H) (f1 : Nat) (v2 : Int32) (v3 : Int32) (w0 : Int32) : px_p (kX9_ways X) 4 7 ([some (.ref 58), some (.ref (f1)), some (.int (v2)), some (.int (v3))], [.int (w0)], (hp M J R c e nL xs D)) =
    cond (decide (w0 = (-1)))
    (px_run (px_mk (kX9_ways X)) 22 ([some (.ref 58), some (.ref (f1)), some (.int (v2)), some (.int (v3))], [], (hp M J R c e nL xs D)))
    (px_run (px_mk (kX9_ways X)) 22 ([some (.ref 58), some (.ref (f1)), some (.int ((v2 + 1))), some (.int (v3))], [], (hp M J R c e nL xs D))) := rfl
set_option maxRecDepth 40000 in
theorem eX9_ways_22 (X : px_X) (M : Nat → Nat → Int32) (J : Nat → Nat → Int64) (R : Nat → Nat → Option Nat) (c e : Nat) (nL : Nat) (xs : Nat → Int32) (D : px_H) (f1 : Nat) (v2 : Int32) (v3 : Int32) : px_run (px_mk (kX9_ways X)) 22 ([some (.ref 58), some (.ref (f1)), some (.int (v2)), some (.int (v3))], [], (hp M J R c e nL xs D)) =
    px_run (px_mk (kX9_ways X)) 4 ([some (.ref 58), some (.ref (f1)), some (.int (v2)), some (.int ((v3 + 1)))], [], (hp M J R c e nL xs D)) := (px_run_eq _ _ _).trans rfl
set_option maxRecDepth 40000 in
theorem eX9_wayAt_0 (X : px_X) (M : Nat → Nat → Int32) (J : Nat → Nat → Int64) (R : Nat → Nat → Option Nat) (c e : Nat) (nL : Nat) (xs : Nat → Int32) (D : px_H) (f1 : Nat) (v2 : Int32) : px_run (px_mk (kX9_wayAt X)) 0 ([some (.ref 58), some (.ref (f1)), some (.int (v2)), none, none, none], [], (hp M J R c e nL xs D)) =
    px_run (px_mk (kX9_wayAt X)) 5 ([some (.ref 58), some (.ref (f1)), some (.int (v2)), some (.int (0)), some (.int (0)), none], [], (hp M J R c e nL xs D)) := (px_run_eq _ _ _).trans rfl
set_option maxRecDepth 40000 in
theorem eX9_wayAt_5 (X : px_X) (M : Nat → Nat → Int32) (J : Nat → Nat → Int64) (R : Nat → Nat → Option Nat) (c e : Nat) (nL : Nat) (xs : Nat → Int32) (D : px_H) (f1 : Nat) (v2 : Int32) (v3 : Int32) (v4 : Int32) (o5 : Option Value) : px_run (px_mk (kX9_wayAt X)) 5 ([some (.ref 58), some (.ref (f1)), some (.int (v2)), some (.int (v3)), some (.int (v4)), o5], [], (hp M J R c e nL xs D)) =
    cond (decide (5 ≤ v4))
    (px_run (px_mk (kX9_wayAt X)) 49 ([some (.ref 58), some (.ref (f1)), some (.int (v2)), some (.int (v3)), some (.int (v4)), none], [], (hp M J R c e nL xs D)))
    (px_bd (X 107 [.ref 58, .int (v4), .ref (f1)] (hp M J R c e nL xs D))
    (fun v G1 => px_p (kX9_wayAt X) 5 7 ([some (.ref 58), some (.ref (f1)), some (.int (v2)), some (.int (v3)), some (.int (v4)), none], px_psh v [], G1))) := (px_run_eq _ _ _).trans rfl
set_option maxRecDepth 40000 in
theorem eX9_wayAt_49 (X : px_X) (M : Nat → Nat → Int32) (J : Nat → Nat → Int64) (R : Nat → Nat → Option Nat) (c e : Nat) (nL : Nat) (xs : Nat → Int32) (D : px_H) (o0 : Option Value) (o1 : Option Value) (o2 : Option Value) (o3 : Option Value) (o4 : Option Value) (o5 : Option Value) : px_run (px_mk (kX9_wayAt X)) 49 ([o0, o1, o2, o3, o4, o5], [], (hp M J R c e nL xs D)) =
    some (some (.int ((-1))), (hp M J R c e nL xs D)) := (px_run_eq _ _ _).trans rfl
set_option maxRecDepth 40000 in
theorem eX9_wayAt_5_7 (X : px_X) (M : Nat → Nat → Int32) (J : Nat → Nat → Int64) (R : Nat → Nat → Option Nat) (c e : Nat) (nL : Nat) (xs : Nat → Int32) (D : px_H) (f1 : Nat) (v2 : Int32) (v3 : Int32) (v4 : Int32) (w0 : Int32) : px_p (kX9_wayAt X) 5 7 ([some (.ref 58), some (.ref (f1)), some (.int (v2)), some (.int (v3)), some (.int (v4)), none], [.int (w0)], (hp M J R c e nL xs D)) =
    cond (decide (w0 = (-1)))
    (px_run (px_mk (kX9_wayAt X)) 43 ([some (.ref 58), some (.ref (f1)), some (.int (v2)), some (.int (v3)), some (.int (v4)), some (.int (w0))], [], (hp M J R c e nL xs D)))
    (cond (decide (¬ v3 = v2))
    (px_run (px_mk (kX9_wayAt X)) 40 ([some (.ref 58), some (.ref (f1)), some (.int (v2)), some (.int (v3)), some (.int (v4)), some (.int (w0))], [], (hp M J R c e nL xs D)))
    (some (some (.int (((10 * v4) + w0))), (hp M J R c e nL xs D)))) := rfl
set_option maxRecDepth 40000 in
theorem eX9_wayAt_43 (X : px_X) (M : Nat → Nat → Int32) (J : Nat → Nat → Int64) (R : Nat → Nat → Option Nat) (c e : Nat) (nL : Nat) (xs : Nat → Int32) (D : px_H) (f1 : Nat) (v2 : Int32) (v3 : Int32) (v4 : Int32) (o5 : Option Value) : px_run (px_mk (kX9_wayAt X)) 43 ([some (.ref 58), some (.ref (f1)), some (.int (v2)), some (.int (v3)), some (.int (v4)), o5], [], (hp M J R c e nL xs D)) =
    px_run (px_mk (kX9_wayAt X)) 5 ([some (.ref 58), some (.ref (f1)), some (.int (v2)), some (.int (v3)), some (.int ((v4 + 1))), none], [], (hp M J R c e nL xs D)) := (px_run_eq _ _ _).trans rfl
set_option maxRecDepth 40000 in
theorem eX9_wayAt_40 (X : px_X) (M : Nat → Nat → Int32) (J : Nat → Nat → Int64) (R : Nat → Nat → Option Nat) (c e : Nat) (nL : Nat) (xs : Nat → Int32) (D : px_H) (f1 : Nat) (v2 : Int32) (v3 : Int32) (v4 : Int32) (o5 : Option Value) : px_run (px_mk (kX9_wayAt X)) 40 ([some (.ref 58), some (.ref (f1)), some (.int (v2)), some (.int (v3)), some (.int (v4)), o5], [], (hp M J R c e nL xs D)) =
    px_run (px_mk (kX9_wayAt X)) 43 ([some (.ref 58), some (.ref (f1)), some (.int (v2)), some (.int ((v3 + 1))), some (.int (v4)), none], [], (hp M J R c e nL xs D)) := (px_run_eq _ _ _).trans rfl
set_option maxRecDepth 40000 in
theorem eX9_placeOn_0 (X : px_X) (M : Nat → Nat → Int32) (J : Nat → Nat → Int64) (R : Nat → Nat → Option Nat) (c e : Nat) (nL : Nat) (xs : Nat → Int32) (D : px_H) (v1 : Int32) (f2 : Nat) : px_run (px_mk (kX9_placeOn X)) 0 ([some (.ref 58), some (.int (v1)), some (.ref (f2)), none, none, none], [], (hp M J R c e nL xs D)) =
    px_bd (X 108 [.ref 58, .int (v1)] (hp M J R c e nL xs D))
    (fun v G1 => px_p (kX9_placeOn X) 0 3 ([some (.ref 58), some (.int (v1)), some (.ref (f2)), none, none, none], px_psh v [], G1)) := (px_run_eq _ _ _).trans rfl
set_option maxRecDepth 40000 in
theorem eX9_placeOn_0_3 (X : px_X) (M : Nat → Nat → Int32) (J : Nat → Nat → Int64) (R : Nat → Nat → Option Nat) (c e : Nat) (nL : Nat) (xs : Nat → Int32) (D : px_H) (v1 : Int32) (f2 : Nat) (w0 : Int32) : px_p (kX9_placeOn X) 0 3 ([some (.ref 58), some (.int (v1)), some (.ref (f2)), none, none, none], [.int (w0)], (hp M J R c e nL xs D)) =
    px_p (kX9_placeOn X) 0 5 ([some (.ref 58), some (.int (v1)), some (.ref (f2)), some (.int (w0)), none, none], [.ref (f2)], (hp M J R c e nL xs D)) := rfl
set_option maxRecDepth 40000 in
theorem eX9_placeOn_0_5 (X : px_X) (G : px_H) (v1 : Int32) (f2 : Nat) (v3 : Int32) (g0 : Nat) : px_p (kX9_placeOn X) 0 5 ([some (.ref 58), some (.int (v1)), some (.ref (f2)), some (.int (v3)), none, none], [.ref (g0)], G) =
    cond (px_isc G (g0) 2)
    (px_bd (X 22 [.ref (g0)] G)
    (fun v G1 => px_p (kX9_placeOn X) 0 6 ([some (.ref 58), some (.int (v1)), some (.ref (f2)), some (.int (v3)), none, none], px_psh v [], G1))) none := px_scallV rfl rfl rfl rfl
set_option maxRecDepth 40000 in
theorem eX9_placeOn_0_6 (X : px_X) (M : Nat → Nat → Int32) (J : Nat → Nat → Int64) (R : Nat → Nat → Option Nat) (c e : Nat) (nL : Nat) (xs : Nat → Int32) (D : px_H) (v1 : Int32) (f2 : Nat) (v3 : Int32) (w0 : Int32) : px_p (kX9_placeOn X) 0 6 ([some (.ref 58), some (.int (v1)), some (.ref (f2)), some (.int (v3)), none, none], [.int (w0)], (hp M J R c e nL xs D)) =
    px_p (kX9_placeOn X) 0 16 ([some (.ref 58), some (.int (v1)), some (.ref (f2)), some (.int (v3)), some (.int ((w0 - (v3 * M 58 1)))), none], [.ref (f2), .int ((if 3 < v3 then 3 else v3))], (hp M J R c e nL xs D)) := rfl
set_option maxRecDepth 40000 in
theorem eX9_placeOn_0_16 (X : px_X) (G : px_H) (v1 : Int32) (f2 : Nat) (v3 : Int32) (v4 : Int32) (w0 : Int32) (g1 : Nat) : px_p (kX9_placeOn X) 0 16 ([some (.ref 58), some (.int (v1)), some (.ref (f2)), some (.int (v3)), some (.int (v4)), none], [.ref (g1), .int (w0)], G) =
    px_vb (px_gf G (g1) 2 2) (fun v => px_p (kX9_placeOn X) 0 17 ([some (.ref 58), some (.int (v1)), some (.ref (f2)), some (.int (v3)), some (.int (v4)), none], v :: [.int (w0)], G)) := px_sgetf
set_option maxRecDepth 40000 in
theorem eX9_placeOn_0_17 (X : px_X) (M : Nat → Nat → Int32) (J : Nat → Nat → Int64) (R : Nat → Nat → Option Nat) (c e : Nat) (nL : Nat) (xs : Nat → Int32) (D : px_H) (v1 : Int32) (f2 : Nat) (v3 : Int32) (v4 : Int32) (w0 : Int32) (w1 : Int32) : px_p (kX9_placeOn X) 0 17 ([some (.ref 58), some (.int (v1)), some (.ref (f2)), some (.int (v3)), some (.int (v4)), none], [.int (w1), .int (w0)], (hp M J R c e nL xs D)) =
    cond (decide (¬ w0 = w1))
    (px_run (px_mk (kX9_placeOn X)) 35 ([some (.ref 58), some (.int (v1)), some (.ref (f2)), some (.int (v3)), some (.int (v4)), none], [], (hp M J R c e nL xs D)))
    (px_run (px_mk (kX9_placeOn X)) 36 ([some (.ref 58), some (.int (v1)), some (.ref (f2)), some (.int (v3)), some (.int (v4)), none], [.int (1)], (hp M J R c e nL xs D))) := rfl
set_option maxRecDepth 40000 in
theorem eX9_placeOn_35 (X : px_X) (M : Nat → Nat → Int32) (J : Nat → Nat → Int64) (R : Nat → Nat → Option Nat) (c e : Nat) (nL : Nat) (xs : Nat → Int32) (D : px_H) (o0 : Option Value) (o1 : Option Value) (o2 : Option Value) (o3 : Option Value) (v4 : Int32) (o5 : Option Value) : px_run (px_mk (kX9_placeOn X)) 35 ([o0, o1, o2, o3, some (.int (v4)), o5], [], (hp M J R c e nL xs D)) =
    px_run (px_mk (kX9_placeOn X)) 36 ([none, none, none, none, some (.int (v4)), none], [.int (0)], (hp M J R c e nL xs D)) := (px_run_eq _ _ _).trans rfl
set_option maxRecDepth 40000 in
theorem eX9_placeOn_36 (X : px_X) (M : Nat → Nat → Int32) (J : Nat → Nat → Int64) (R : Nat → Nat → Option Nat) (c e : Nat) (nL : Nat) (xs : Nat → Int32) (D : px_H) (o0 : Option Value) (o1 : Option Value) (o2 : Option Value) (o3 : Option Value) (v4 : Int32) (o5 : Option Value) (w0 : Int32) : px_run (px_mk (kX9_placeOn X)) 36 ([o0, o1, o2, o3, some (.int (v4)), o5], [.int (w0)], (hp M J R c e nL xs D)) =
    cond (decide (w0 = 0))
    (px_run (px_mk (kX9_placeOn X)) 60 ([none, none, none, none, some (.int (v4)), some (.int (w0))], [], (hp M J R c e nL xs D)))
    (cond (decide (v4 < 0))
    (px_run (px_mk (kX9_placeOn X)) 60 ([none, none, none, none, some (.int (v4)), some (.int (w0))], [], (hp M J R c e nL xs D)))
    (cond (decide (10 ≤ v4))
    (px_run (px_mk (kX9_placeOn X)) 60 ([none, none, none, none, some (.int (v4)), some (.int (w0))], [], (hp M J R c e nL xs D)))
    (px_run (px_mk (kX9_placeOn X)) 61 ([none, none, none, none, some (.int (v4)), some (.int (w0))], [.int (v4)], (hp M J R c e nL xs D))))) := (px_run_eq _ _ _).trans rfl
set_option maxRecDepth 40000 in
theorem eX9_placeOn_60 (X : px_X) (M : Nat → Nat → Int32) (J : Nat → Nat → Int64) (R : Nat → Nat → Option Nat) (c e : Nat) (nL : Nat) (xs : Nat → Int32) (D : px_H) (o0 : Option Value) (o1 : Option Value) (o2 : Option Value) (o3 : Option Value) (o4 : Option Value) (o5 : Option Value) : px_run (px_mk (kX9_placeOn X)) 60 ([o0, o1, o2, o3, o4, o5], [], (hp M J R c e nL xs D)) =
    px_run (px_mk (kX9_placeOn X)) 61 ([none, none, none, none, none, none], [.int ((-1))], (hp M J R c e nL xs D)) := (px_run_eq _ _ _).trans rfl
set_option maxRecDepth 40000 in
theorem eX9_placeOn_61 (X : px_X) (M : Nat → Nat → Int32) (J : Nat → Nat → Int64) (R : Nat → Nat → Option Nat) (c e : Nat) (nL : Nat) (xs : Nat → Int32) (D : px_H) (o0 : Option Value) (o1 : Option Value) (o2 : Option Value) (o3 : Option Value) (o4 : Option Value) (o5 : Option Value) (w0 : Int32) : px_run (px_mk (kX9_placeOn X)) 61 ([o0, o1, o2, o3, o4, o5], [.int (w0)], (hp M J R c e nL xs D)) =
    some (some (.int (w0)), (hp M J R c e nL xs D)) := (px_run_eq _ _ _).trans rfl
set_option maxRecDepth 40000 in
theorem eX9_decksDown_0 (X : px_X) (M : Nat → Nat → Int32) (J : Nat → Nat → Int64) (R : Nat → Nat → Option Nat) (c e : Nat) (nL : Nat) (xs : Nat → Int32) (D : px_H) (v1 : Int32) : px_run (px_mk (kX9_decksDown X)) 0 ([some (.ref 58), some (.int (v1)), none, none], [], (hp M J R c e nL xs D)) =
    px_run (px_mk (kX9_decksDown X)) 4 ([some (.ref 58), some (.int (v1)), some (.int (0)), some (.int (v1))], [], (hp M J R c e nL xs D)) := (px_run_eq _ _ _).trans rfl
set_option maxRecDepth 40000 in
theorem eX9_decksDown_4 (X : px_X) (M : Nat → Nat → Int32) (J : Nat → Nat → Int64) (R : Nat → Nat → Option Nat) (c e : Nat) (nL : Nat) (xs : Nat → Int32) (D : px_H) (o1 : Option Value) (v2 : Int32) (v3 : Int32) : px_run (px_mk (kX9_decksDown X)) 4 ([some (.ref 58), o1, some (.int (v2)), some (.int (v3))], [], (hp M J R c e nL xs D)) =
    cond (decide (v3 ≤ 0))
    (px_run (px_mk (kX9_decksDown X)) 29 ([some (.ref 58), none, some (.int (v2)), some (.int (v3))], [], (hp M J R c e nL xs D)))
    (cond (decide (¬ ((M 58 0 >>> (v3 &&& 31)) &&& 1) = 1))
    (px_run (px_mk (kX9_decksDown X)) 29 ([some (.ref 58), none, some (.int (v2)), some (.int (v3))], [], (hp M J R c e nL xs D)))
    (px_run (px_mk (kX9_decksDown X)) 4 ([some (.ref 58), none, some (.int ((v2 + 1))), some (.int ((v3 + (-1))))], [], (hp M J R c e nL xs D)))) := (px_run_eq _ _ _).trans rfl
set_option maxRecDepth 40000 in
theorem eX9_decksDown_29 (X : px_X) (M : Nat → Nat → Int32) (J : Nat → Nat → Int64) (R : Nat → Nat → Option Nat) (c e : Nat) (nL : Nat) (xs : Nat → Int32) (D : px_H) (o0 : Option Value) (o1 : Option Value) (v2 : Int32) (o3 : Option Value) : px_run (px_mk (kX9_decksDown X)) 29 ([o0, o1, some (.int (v2)), o3], [], (hp M J R c e nL xs D)) =
    some (some (.int (v2)), (hp M J R c e nL xs D)) := (px_run_eq _ _ _).trans rfl
