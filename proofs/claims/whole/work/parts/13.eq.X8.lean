/-! block equations over the fixed layout (written by wip/whole/seg.py) -/
set_option maxRecDepth 40000 in
theorem eX8_match_0 (X : px_X) (M : Nat → Nat → Int32) (J : Nat → Nat → Int64) (R : Nat → Nat → Option Nat) (c e : Nat) (nL : Nat) (xs : Nat → Int32) (D : px_H) (f1 : Nat) (f2 : Nat) : px_run (px_mk (kX8_match X)) 0 ([some (.ref 49), some (.ref (f1)), some (.ref (f2)), none, none, none], [], (hp M J R c e nL xs D)) =
    px_run (px_mk (kX8_match X)) 2 ([some (.ref 49), some (.ref (f1)), some (.ref (f2)), some (.int (0)), none, none], [], (hp M J R c e nL xs D)) := (px_run_eq _ _ _).trans rfl
set_option maxRecDepth 40000 in
theorem eX8_match_2 (X : px_X) (M : Nat → Nat → Int32) (J : Nat → Nat → Int64) (R : Nat → Nat → Option Nat) (c e : Nat) (nL : Nat) (xs : Nat → Int32) (D : px_H) (f1 : Nat) (f2 : Nat) (v3 : Int32) (o4 : Option Value) (o5 : Option Value) : px_run (px_mk (kX8_match X)) 2 ([some (.ref 49), some (.ref (f1)), some (.ref (f2)), some (.int (v3)), o4, o5], [], (hp M J R c e nL xs D)) =
    cond (decide ((Int32.ofNat 101) ≤ v3))
    (px_run (px_mk (kX8_match X)) 24 ([some (.ref 49), some (.ref (f1)), some (.ref (f2)), some (.int (v3)), none, none], [], (hp M J R c e nL xs D)))
    (cond (px_inb (v3) 101)
    (px_run (px_mk (kX8_match X)) 2 ([some (.ref 49), some (.ref (f1)), some (.ref (f2)), some (.int ((v3 + 1))), none, none], [], (hp (px_uR M 50 (upd (M 50) (Int32.toNatClampNeg (v3)) (0))) J R c e nL xs D))) none) := (px_run_eq _ _ _).trans rfl
set_option maxRecDepth 40000 in
theorem eX8_match_24 (X : px_X) (M : Nat → Nat → Int32) (J : Nat → Nat → Int64) (R : Nat → Nat → Option Nat) (c e : Nat) (nL : Nat) (xs : Nat → Int32) (D : px_H) (f1 : Nat) (f2 : Nat) (o3 : Option Value) (o4 : Option Value) (o5 : Option Value) : px_run (px_mk (kX8_match X)) 24 ([some (.ref 49), some (.ref (f1)), some (.ref (f2)), o3, o4, o5], [], (hp M J R c e nL xs D)) =
    px_run (px_mk (kX8_match X)) 26 ([some (.ref 49), some (.ref (f1)), some (.ref (f2)), some (.int (0)), none, none], [], (hp M J R c e nL xs D)) := (px_run_eq _ _ _).trans rfl
set_option maxRecDepth 40000 in
theorem eX8_match_26 (X : px_X) (M : Nat → Nat → Int32) (J : Nat → Nat → Int64) (R : Nat → Nat → Option Nat) (c e : Nat) (nL : Nat) (xs : Nat → Int32) (D : px_H) (f1 : Nat) (f2 : Nat) (v3 : Int32) (o4 : Option Value) (o5 : Option Value) : px_run (px_mk (kX8_match X)) 26 ([some (.ref 49), some (.ref (f1)), some (.ref (f2)), some (.int (v3)), o4, o5], [], (hp M J R c e nL xs D)) =
    px_p (kX8_match X) 26 2 ([some (.ref 49), some (.ref (f1)), some (.ref (f2)), some (.int (v3)), none, none], [.ref (f1), .int (v3)], (hp M J R c e nL xs D)) := (px_run_eq _ _ _).trans rfl
set_option maxRecDepth 40000 in
theorem eX8_match_26_2 (X : px_X) (G : px_H) (f1 : Nat) (f2 : Nat) (v3 : Int32) (w0 : Int32) (g1 : Nat) : px_p (kX8_match X) 26 2 ([some (.ref 49), some (.ref (f1)), some (.ref (f2)), some (.int (v3)), none, none], [.ref (g1), .int (w0)], G) =
    px_vb (px_gf G (g1) 2 4) (fun v => px_p (kX8_match X) 26 3 ([some (.ref 49), some (.ref (f1)), some (.ref (f2)), some (.int (v3)), none, none], v :: [.int (w0)], G)) := px_sgetf
set_option maxRecDepth 40000 in
theorem eX8_match_26_3 (X : px_X) (M : Nat → Nat → Int32) (J : Nat → Nat → Int64) (R : Nat → Nat → Option Nat) (c e : Nat) (nL : Nat) (xs : Nat → Int32) (D : px_H) (f1 : Nat) (f2 : Nat) (v3 : Int32) (w0 : Int32) (w1 : Int32) : px_p (kX8_match X) 26 3 ([some (.ref 49), some (.ref (f1)), some (.ref (f2)), some (.int (v3)), none, none], [.int (w1), .int (w0)], (hp M J R c e nL xs D)) =
    cond (decide (w1 ≤ w0))
    (px_run (px_mk (kX8_match X)) 102 ([some (.ref 49), some (.ref (f1)), some (.ref (f2)), some (.int (v3)), none, none], [], (hp M J R c e nL xs D)))
    (px_run (px_mk (kX8_match X)) 37 ([some (.ref 49), some (.ref (f1)), some (.ref (f2)), some (.int (v3)), some (.int (0)), none], [], (hp M J R c e nL xs D))) := rfl
set_option maxRecDepth 40000 in
theorem eX8_match_102 (X : px_X) (M : Nat → Nat → Int32) (J : Nat → Nat → Int64) (R : Nat → Nat → Option Nat) (c e : Nat) (nL : Nat) (xs : Nat → Int32) (D : px_H) (o1 : Option Value) (o2 : Option Value) (o3 : Option Value) (o4 : Option Value) (o5 : Option Value) : px_run (px_mk (kX8_match X)) 102 ([some (.ref 49), o1, o2, o3, o4, o5], [], (hp M J R c e nL xs D)) =
    px_run (px_mk (kX8_match X)) 109 ([some (.ref 49), none, none, some (.int (0)), none, none], [], (hp (px_uR M 49 (upd (M 49) 1 ((-1)))) J R c e nL xs D)) := (px_run_eq _ _ _).trans rfl
set_option maxRecDepth 40000 in
theorem eX8_match_37 (X : px_X) (M : Nat → Nat → Int32) (J : Nat → Nat → Int64) (R : Nat → Nat → Option Nat) (c e : Nat) (nL : Nat) (xs : Nat → Int32) (D : px_H) (f1 : Nat) (f2 : Nat) (v3 : Int32) (v4 : Int32) (o5 : Option Value) : px_run (px_mk (kX8_match X)) 37 ([some (.ref 49), some (.ref (f1)), some (.ref (f2)), some (.int (v3)), some (.int (v4)), o5], [], (hp M J R c e nL xs D)) =
    px_p (kX8_match X) 37 2 ([some (.ref 49), some (.ref (f1)), some (.ref (f2)), some (.int (v3)), some (.int (v4)), none], [.ref (f2), .int (v4)], (hp M J R c e nL xs D)) := (px_run_eq _ _ _).trans rfl
set_option maxRecDepth 40000 in
theorem eX8_match_109 (X : px_X) (M : Nat → Nat → Int32) (J : Nat → Nat → Int64) (R : Nat → Nat → Option Nat) (c e : Nat) (nL : Nat) (xs : Nat → Int32) (D : px_H) (o1 : Option Value) (o2 : Option Value) (v3 : Int32) (o4 : Option Value) (o5 : Option Value) : px_run (px_mk (kX8_match X)) 109 ([some (.ref 49), o1, o2, some (.int (v3)), o4, o5], [], (hp M J R c e nL xs D)) =
    cond (decide (50 < v3))
    (px_run (px_mk (kX8_match X)) 132 ([some (.ref 49), none, none, some (.int (v3)), none, none], [], (hp M J R c e nL xs D)))
    (px_bd (X 100 [.ref 49, .int ((-v3))] (hp M J R c e nL xs D))
    (fun v G1 => px_p (kX8_match X) 109 7 ([some (.ref 49), none, none, some (.int (v3)), none, none], px_psh v [], G1))) := (px_run_eq _ _ _).trans rfl
set_option maxRecDepth 40000 in
theorem eX8_match_37_2 (X : px_X) (G : px_H) (f1 : Nat) (f2 : Nat) (v3 : Int32) (v4 : Int32) (w0 : Int32) (g1 : Nat) : px_p (kX8_match X) 37 2 ([some (.ref 49), some (.ref (f1)), some (.ref (f2)), some (.int (v3)), some (.int (v4)), none], [.ref (g1), .int (w0)], G) =
    px_vb (px_gf G (g1) 2 4) (fun v => px_p (kX8_match X) 37 3 ([some (.ref 49), some (.ref (f1)), some (.ref (f2)), some (.int (v3)), some (.int (v4)), none], v :: [.int (w0)], G)) := px_sgetf
set_option maxRecDepth 40000 in
theorem eX8_match_132 (X : px_X) (M : Nat → Nat → Int32) (J : Nat → Nat → Int64) (R : Nat → Nat → Option Nat) (c e : Nat) (nL : Nat) (xs : Nat → Int32) (D : px_H) (o0 : Option Value) (o1 : Option Value) (o2 : Option Value) (o3 : Option Value) (o4 : Option Value) (o5 : Option Value) : px_run (px_mk (kX8_match X)) 132 ([o0, o1, o2, o3, o4, o5], [], (hp M J R c e nL xs D)) =
    some (none, (hp M J R c e nL xs D)) := (px_run_eq _ _ _).trans rfl
set_option maxRecDepth 40000 in
theorem eX8_match_109_7 (X : px_X) (M : Nat → Nat → Int32) (J : Nat → Nat → Int64) (R : Nat → Nat → Option Nat) (c e : Nat) (nL : Nat) (xs : Nat → Int32) (D : px_H) (v3 : Int32) : px_p (kX8_match X) 109 7 ([some (.ref 49), none, none, some (.int (v3)), none, none], [], (hp M J R c e nL xs D)) =
    px_bd (X 100 [.ref 49, .int (v3)] (hp M J R c e nL xs D))
    (fun v G1 => px_p (kX8_match X) 109 10 ([some (.ref 49), none, none, some (.int (v3)), none, none], px_psh v [], G1)) := rfl
set_option maxRecDepth 40000 in
theorem eX8_match_37_3 (X : px_X) (M : Nat → Nat → Int32) (J : Nat → Nat → Int64) (R : Nat → Nat → Option Nat) (c e : Nat) (nL : Nat) (xs : Nat → Int32) (D : px_H) (f1 : Nat) (f2 : Nat) (v3 : Int32) (v4 : Int32) (w0 : Int32) (w1 : Int32) : px_p (kX8_match X) 37 3 ([some (.ref 49), some (.ref (f1)), some (.ref (f2)), some (.int (v3)), some (.int (v4)), none], [.int (w1), .int (w0)], (hp M J R c e nL xs D)) =
    cond (decide (w1 ≤ w0))
    (px_run (px_mk (kX8_match X)) 96 ([some (.ref 49), some (.ref (f1)), some (.ref (f2)), some (.int (v3)), some (.int (v4)), none], [], (hp M J R c e nL xs D)))
    (px_p (kX8_match X) 37 5 ([some (.ref 49), some (.ref (f1)), some (.ref (f2)), some (.int (v3)), some (.int (v4)), none], [.ref (f2)], (hp M J R c e nL xs D))) := rfl
set_option maxRecDepth 40000 in
theorem eX8_match_109_10 (X : px_X) (M : Nat → Nat → Int32) (J : Nat → Nat → Int64) (R : Nat → Nat → Option Nat) (c e : Nat) (nL : Nat) (xs : Nat → Int32) (D : px_H) (v3 : Int32) : px_p (kX8_match X) 109 10 ([some (.ref 49), none, none, some (.int (v3)), none, none], [], (hp M J R c e nL xs D)) =
    px_run (px_mk (kX8_match X)) 109 ([some (.ref 49), none, none, some (.int ((v3 + 1))), none, none], [], (hp M J R c e nL xs D)) := rfl
set_option maxRecDepth 40000 in
theorem eX8_match_96 (X : px_X) (M : Nat → Nat → Int32) (J : Nat → Nat → Int64) (R : Nat → Nat → Option Nat) (c e : Nat) (nL : Nat) (xs : Nat → Int32) (D : px_H) (f1 : Nat) (f2 : Nat) (v3 : Int32) (o4 : Option Value) (o5 : Option Value) : px_run (px_mk (kX8_match X)) 96 ([some (.ref 49), some (.ref (f1)), some (.ref (f2)), some (.int (v3)), o4, o5], [], (hp M J R c e nL xs D)) =
    px_run (px_mk (kX8_match X)) 26 ([some (.ref 49), some (.ref (f1)), some (.ref (f2)), some (.int ((v3 + 1))), none, none], [], (hp M J R c e nL xs D)) := (px_run_eq _ _ _).trans rfl
set_option maxRecDepth 40000 in
theorem eX8_match_37_5 (X : px_X) (G : px_H) (f1 : Nat) (f2 : Nat) (v3 : Int32) (v4 : Int32) (g0 : Nat) : px_p (kX8_match X) 37 5 ([some (.ref 49), some (.ref (f1)), some (.ref (f2)), some (.int (v3)), some (.int (v4)), none], [.ref (g0)], G) =
    px_vb (px_gf G (g0) 2 5) (fun v => px_p (kX8_match X) 37 6 ([some (.ref 49), some (.ref (f1)), some (.ref (f2)), some (.int (v3)), some (.int (v4)), none], v :: [], G)) := px_sgetf
set_option maxRecDepth 40000 in
theorem eX8_match_37_6 (X : px_X) (M : Nat → Nat → Int32) (J : Nat → Nat → Int64) (R : Nat → Nat → Option Nat) (c e : Nat) (nL : Nat) (xs : Nat → Int32) (D : px_H) (f1 : Nat) (f2 : Nat) (v3 : Int32) (v4 : Int32) (g0 : Nat) : px_p (kX8_match X) 37 6 ([some (.ref 49), some (.ref (f1)), some (.ref (f2)), some (.int (v3)), some (.int (v4)), none], [.ref (g0)], (hp M J R c e nL xs D)) =
    px_p (kX8_match X) 37 7 ([some (.ref 49), some (.ref (f1)), some (.ref (f2)), some (.int (v3)), some (.int (v4)), none], [.int (v4), .ref (g0)], (hp M J R c e nL xs D)) := rfl
set_option maxRecDepth 40000 in
theorem eX8_match_37_7 (X : px_X) (G : px_H) (f1 : Nat) (f2 : Nat) (v3 : Int32) (v4 : Int32) (g0 : Nat) (w1 : Int32) : px_p (kX8_match X) 37 7 ([some (.ref 49), some (.ref (f1)), some (.ref (f2)), some (.int (v3)), some (.int (v4)), none], [.int (w1), .ref (g0)], G) =
    px_ib (px_ga G (g0) 0 (w1)) (fun v => px_p (kX8_match X) 37 8 ([some (.ref 49), some (.ref (f1)), some (.ref (f2)), some (.int (v3)), some (.int (v4)), none], .int v :: [], G)) := px_siald
set_option maxRecDepth 40000 in
theorem eX8_match_37_8 (X : px_X) (M : Nat → Nat → Int32) (J : Nat → Nat → Int64) (R : Nat → Nat → Option Nat) (c e : Nat) (nL : Nat) (xs : Nat → Int32) (D : px_H) (f1 : Nat) (f2 : Nat) (v3 : Int32) (v4 : Int32) (w0 : Int32) : px_p (kX8_match X) 37 8 ([some (.ref 49), some (.ref (f1)), some (.ref (f2)), some (.int (v3)), some (.int (v4)), none], [.int (w0)], (hp M J R c e nL xs D)) =
    px_p (kX8_match X) 37 9 ([some (.ref 49), some (.ref (f1)), some (.ref (f2)), some (.int (v3)), some (.int (v4)), none], [.ref (f1), .int (w0)], (hp M J R c e nL xs D)) := rfl
set_option maxRecDepth 40000 in
theorem eX8_match_37_9 (X : px_X) (G : px_H) (f1 : Nat) (f2 : Nat) (v3 : Int32) (v4 : Int32) (w0 : Int32) (g1 : Nat) : px_p (kX8_match X) 37 9 ([some (.ref 49), some (.ref (f1)), some (.ref (f2)), some (.int (v3)), some (.int (v4)), none], [.ref (g1), .int (w0)], G) =
    px_vb (px_gf G (g1) 2 5) (fun v => px_p (kX8_match X) 37 10 ([some (.ref 49), some (.ref (f1)), some (.ref (f2)), some (.int (v3)), some (.int (v4)), none], v :: [.int (w0)], G)) := px_sgetf
set_option maxRecDepth 40000 in
theorem eX8_match_37_10 (X : px_X) (M : Nat → Nat → Int32) (J : Nat → Nat → Int64) (R : Nat → Nat → Option Nat) (c e : Nat) (nL : Nat) (xs : Nat → Int32) (D : px_H) (f1 : Nat) (f2 : Nat) (v3 : Int32) (v4 : Int32) (w0 : Int32) (g1 : Nat) : px_p (kX8_match X) 37 10 ([some (.ref 49), some (.ref (f1)), some (.ref (f2)), some (.int (v3)), some (.int (v4)), none], [.ref (g1), .int (w0)], (hp M J R c e nL xs D)) =
    px_p (kX8_match X) 37 11 ([some (.ref 49), some (.ref (f1)), some (.ref (f2)), some (.int (v3)), some (.int (v4)), none], [.int (v3), .ref (g1), .int (w0)], (hp M J R c e nL xs D)) := rfl
set_option maxRecDepth 40000 in
theorem eX8_match_37_11 (X : px_X) (G : px_H) (f1 : Nat) (f2 : Nat) (v3 : Int32) (v4 : Int32) (w0 : Int32) (g1 : Nat) (w2 : Int32) : px_p (kX8_match X) 37 11 ([some (.ref 49), some (.ref (f1)), some (.ref (f2)), some (.int (v3)), some (.int (v4)), none], [.int (w2), .ref (g1), .int (w0)], G) =
    px_ib (px_ga G (g1) 0 (w2)) (fun v => px_p (kX8_match X) 37 12 ([some (.ref 49), some (.ref (f1)), some (.ref (f2)), some (.int (v3)), some (.int (v4)), none], .int v :: [.int (w0)], G)) := px_siald
set_option maxRecDepth 40000 in
theorem eX8_match_37_12 (X : px_X) (M : Nat → Nat → Int32) (J : Nat → Nat → Int64) (R : Nat → Nat → Option Nat) (c e : Nat) (nL : Nat) (xs : Nat → Int32) (D : px_H) (f1 : Nat) (f2 : Nat) (v3 : Int32) (v4 : Int32) (w0 : Int32) (w1 : Int32) : px_p (kX8_match X) 37 12 ([some (.ref 49), some (.ref (f1)), some (.ref (f2)), some (.int (v3)), some (.int (v4)), none], [.int (w1), .int (w0)], (hp M J R c e nL xs D)) =
    cond (decide ((w0 - w1) < (-50)))
    (px_run (px_mk (kX8_match X)) 90 ([some (.ref 49), some (.ref (f1)), some (.ref (f2)), some (.int (v3)), some (.int (v4)), some (.int ((w0 - w1)))], [], (hp M J R c e nL xs D)))
    (cond (decide (50 < (w0 - w1)))
    (px_run (px_mk (kX8_match X)) 90 ([some (.ref 49), some (.ref (f1)), some (.ref (f2)), some (.int (v3)), some (.int (v4)), some (.int ((w0 - w1)))], [], (hp M J R c e nL xs D)))
    (cond (px_inb ((50 + (w0 - w1))) 101)
    (cond (px_inb ((50 + (w0 - w1))) 101)
    (px_run (px_mk (kX8_match X)) 90 ([some (.ref 49), some (.ref (f1)), some (.ref (f2)), some (.int (v3)), some (.int (v4)), some (.int ((w0 - w1)))], [], (hp (px_uR M 50 (upd (M 50) (Int32.toNatClampNeg ((50 + (w0 - w1)))) ((((M 50) (Int32.toNatClampNeg ((50 + (w0 - w1))))) + 1)))) J R c e nL xs D))) none) none)) := rfl
set_option maxRecDepth 40000 in
theorem eX8_match_90 (X : px_X) (M : Nat → Nat → Int32) (J : Nat → Nat → Int64) (R : Nat → Nat → Option Nat) (c e : Nat) (nL : Nat) (xs : Nat → Int32) (D : px_H) (f1 : Nat) (f2 : Nat) (v3 : Int32) (v4 : Int32) (o5 : Option Value) : px_run (px_mk (kX8_match X)) 90 ([some (.ref 49), some (.ref (f1)), some (.ref (f2)), some (.int (v3)), some (.int (v4)), o5], [], (hp M J R c e nL xs D)) =
    px_run (px_mk (kX8_match X)) 37 ([some (.ref 49), some (.ref (f1)), some (.ref (f2)), some (.int (v3)), some (.int ((v4 + 1))), none], [], (hp M J R c e nL xs D)) := (px_run_eq _ _ _).trans rfl
set_option maxRecDepth 40000 in
theorem eX8_takeIfGreater_0 (X : px_X) (M : Nat → Nat → Int32) (J : Nat → Nat → Int64) (R : Nat → Nat → Option Nat) (c e : Nat) (nL : Nat) (xs : Nat → Int32) (D : px_H) (v1 : Int32) : px_run (px_mk (kX8_takeIfGreater X)) 0 ([some (.ref 49), some (.int (v1))], [], (hp M J R c e nL xs D)) =
    cond (px_inb ((50 + v1)) 101)
    (cond (decide (((M 50) (Int32.toNatClampNeg ((50 + v1)))) ≤ M 49 1))
    (px_run (px_mk (kX8_takeIfGreater X)) 34 ([some (.ref 49), some (.int (v1))], [], (hp M J R c e nL xs D)))
    (cond (px_inb ((50 + v1)) 101)
    (px_run (px_mk (kX8_takeIfGreater X)) 34 ([some (.ref 49), some (.int (v1))], [], (hp (px_uR M 49 (upd (upd (M 49) 1 (((M 50) (Int32.toNatClampNeg ((50 + v1)))))) 2 (v1))) J R c e nL xs D))) none)) none := (px_run_eq _ _ _).trans rfl
set_option maxRecDepth 40000 in
theorem eX8_takeIfGreater_34 (X : px_X) (M : Nat → Nat → Int32) (J : Nat → Nat → Int64) (R : Nat → Nat → Option Nat) (c e : Nat) (nL : Nat) (xs : Nat → Int32) (D : px_H) (o0 : Option Value) (o1 : Option Value) : px_run (px_mk (kX8_takeIfGreater X)) 34 ([o0, o1], [], (hp M J R c e nL xs D)) =
    some (none, (hp M J R c e nL xs D)) := (px_run_eq _ _ _).trans rfl
set_option maxRecDepth 40000 in
theorem eX8_bestOf_0 (X : px_X) (M : Nat → Nat → Int32) (J : Nat → Nat → Int64) (R : Nat → Nat → Option Nat) (c e : Nat) (nL : Nat) (xs : Nat → Int32) (D : px_H) (v2 : Int32) : px_run (px_mk (kX8_bestOf X)) 0 ([some (.ref 49), some (.ref 28), some (.int (v2)), none, none, none, none, none], [], (hp M J R c e nL xs D)) =
    px_bd (X 112 [.ref 28, .int (v2)] (hp M J R c e nL xs D))
    (fun v G1 => px_p (kX8_bestOf X) 0 3 ([some (.ref 49), some (.ref 28), some (.int (v2)), none, none, none, none, none], px_psh v [], G1)) := (px_run_eq _ _ _).trans rfl
set_option maxRecDepth 40000 in
theorem eX8_bestOf_0_3 (X : px_X) (M : Nat → Nat → Int32) (J : Nat → Nat → Int64) (R : Nat → Nat → Option Nat) (c e : Nat) (nL : Nat) (xs : Nat → Int32) (D : px_H) (v2 : Int32) (g0 : Nat) : px_p (kX8_bestOf X) 0 3 ([some (.ref 49), some (.ref 28), some (.int (v2)), none, none, none, none, none], [.ref (g0)], (hp M J R c e nL xs D)) =
    px_run (px_mk (kX8_bestOf X)) 13 ([some (.ref 49), some (.ref 28), some (.int (v2)), some (.ref (g0)), none, none, none, none], [], (hp M J R c e nL xs D)) := rfl
set_option maxRecDepth 40000 in
theorem eX8_bestOf_0_3_b (X : px_X) (M : Nat → Nat → Int32) (J : Nat → Nat → Int64) (R : Nat → Nat → Option Nat) (c e : Nat) (nL : Nat) (xs : Nat → Int32) (D : px_H) (v2 : Int32) : px_p (kX8_bestOf X) 0 3 ([some (.ref 49), some (.ref 28), some (.int (v2)), none, none, none, none, none], [.null], (hp M J R c e nL xs D)) =
    some (some (.int ((-2))), (hp M J R c e nL xs D)) := rfl
set_option maxRecDepth 40000 in
theorem eX8_bestOf_13 (X : px_X) (M : Nat → Nat → Int32) (J : Nat → Nat → Int64) (R : Nat → Nat → Option Nat) (c e : Nat) (nL : Nat) (xs : Nat → Int32) (D : px_H) (v2 : Int32) (f3 : Nat) (o4 : Option Value) (o5 : Option Value) (o6 : Option Value) (o7 : Option Value) : px_run (px_mk (kX8_bestOf X)) 13 ([some (.ref 49), some (.ref 28), some (.int (v2)), some (.ref (f3)), o4, o5, o6, o7], [], (hp M J R c e nL xs D)) =
    px_run (px_mk (kX8_bestOf X)) 22 ([some (.ref 49), some (.ref 28), some (.int (v2)), some (.ref (f3)), some (.int ((-1))), some (.int (1)), some (.int (0)), none], [], (hp M J R c e nL xs D)) := (px_run_eq _ _ _).trans rfl
set_option maxRecDepth 40000 in
theorem eX8_bestOf_22 (X : px_X) (M : Nat → Nat → Int32) (J : Nat → Nat → Int64) (R : Nat → Nat → Option Nat) (c e : Nat) (nL : Nat) (xs : Nat → Int32) (D : px_H) (v2 : Int32) (f3 : Nat) (v4 : Int32) (v5 : Int32) (v6 : Int32) (o7 : Option Value) : px_run (px_mk (kX8_bestOf X)) 22 ([some (.ref 49), some (.ref 28), some (.int (v2)), some (.ref (f3)), some (.int (v4)), some (.int (v5)), some (.int (v6)), o7], [], (hp M J R c e nL xs D)) =
    cond (decide (M 28 0 ≤ v6))
    (px_run (px_mk (kX8_bestOf X)) 82 ([some (.ref 49), some (.ref 28), some (.int (v2)), some (.ref (f3)), some (.int (v4)), some (.int (v5)), some (.int (v6)), none], [], (hp M J R c e nL xs D)))
    (px_bd (X 112 [.ref 28, .int (v6)] (hp M J R c e nL xs D))
    (fun v G1 => px_p (kX8_bestOf X) 22 7 ([some (.ref 49), some (.ref 28), some (.int (v2)), some (.ref (f3)), some (.int (v4)), some (.int (v5)), some (.int (v6)), none], px_psh v [], G1))) := (px_run_eq _ _ _).trans rfl
set_option maxRecDepth 40000 in
theorem eX8_bestOf_82 (X : px_X) (M : Nat → Nat → Int32) (J : Nat → Nat → Int64) (R : Nat → Nat → Option Nat) (c e : Nat) (nL : Nat) (xs : Nat → Int32) (D : px_H) (o0 : Option Value) (o1 : Option Value) (o2 : Option Value) (o3 : Option Value) (v4 : Int32) (o5 : Option Value) (o6 : Option Value) (o7 : Option Value) : px_run (px_mk (kX8_bestOf X)) 82 ([o0, o1, o2, o3, some (.int (v4)), o5, o6, o7], [], (hp M J R c e nL xs D)) =
    some (some (.int (v4)), (hp M J R c e nL xs D)) := (px_run_eq _ _ _).trans rfl
set_option maxRecDepth 40000 in
theorem eX8_bestOf_22_7 (X : px_X) (M : Nat → Nat → Int32) (J : Nat → Nat → Int64) (R : Nat → Nat → Option Nat) (c e : Nat) (nL : Nat) (xs : Nat → Int32) (D : px_H) (v2 : Int32) (f3 : Nat) (v4 : Int32) (v5 : Int32) (v6 : Int32) (g0 : Nat) : px_p (kX8_bestOf X) 22 7 ([some (.ref 49), some (.ref 28), some (.int (v2)), some (.ref (f3)), some (.int (v4)), some (.int (v5)), some (.int (v6)), none], [.ref (g0)], (hp M J R c e nL xs D)) =
    cond (decide (v6 = v2))
    (px_run (px_mk (kX8_bestOf X)) 76 ([some (.ref 49), some (.ref 28), some (.int (v2)), some (.ref (f3)), some (.int (v4)), some (.int (v5)), some (.int (v6)), some (.ref (g0))], [], (hp M J R c e nL xs D)))
    (px_bd (X 99 [.ref 49, .ref (f3), .ref (g0)] (hp M J R c e nL xs D))
    (fun v G1 => px_p (kX8_bestOf X) 22 17 ([some (.ref 49), some (.ref 28), some (.int (v2)), some (.ref (f3)), some (.int (v4)), some (.int (v5)), some (.int (v6)), some (.ref (g0))], px_psh v [], G1))) := rfl
set_option maxRecDepth 40000 in
theorem eX8_bestOf_22_7_b (X : px_X) (M : Nat → Nat → Int32) (J : Nat → Nat → Int64) (R : Nat → Nat → Option Nat) (c e : Nat) (nL : Nat) (xs : Nat → Int32) (D : px_H) (v2 : Int32) (f3 : Nat) (v4 : Int32) (v5 : Int32) (v6 : Int32) : px_p (kX8_bestOf X) 22 7 ([some (.ref 49), some (.ref 28), some (.int (v2)), some (.ref (f3)), some (.int (v4)), some (.int (v5)), some (.int (v6)), none], [.null], (hp M J R c e nL xs D)) =
    px_run (px_mk (kX8_bestOf X)) 76 ([some (.ref 49), some (.ref 28), some (.int (v2)), some (.ref (f3)), some (.int (v4)), some (.int (v5)), some (.int (v6)), some (.null)], [], (hp M J R c e nL xs D)) := rfl
set_option maxRecDepth 40000 in
theorem eX8_bestOf_76 (X : px_X) (M : Nat → Nat → Int32) (J : Nat → Nat → Int64) (R : Nat → Nat → Option Nat) (c e : Nat) (nL : Nat) (xs : Nat → Int32) (D : px_H) (v2 : Int32) (f3 : Nat) (v4 : Int32) (v5 : Int32) (v6 : Int32) (o7 : Option Value) : px_run (px_mk (kX8_bestOf X)) 76 ([some (.ref 49), some (.ref 28), some (.int (v2)), some (.ref (f3)), some (.int (v4)), some (.int (v5)), some (.int (v6)), o7], [], (hp M J R c e nL xs D)) =
    px_run (px_mk (kX8_bestOf X)) 22 ([some (.ref 49), some (.ref 28), some (.int (v2)), some (.ref (f3)), some (.int (v4)), some (.int (v5)), some (.int ((v6 + 1))), none], [], (hp M J R c e nL xs D)) := (px_run_eq _ _ _).trans rfl
set_option maxRecDepth 40000 in
theorem eX8_bestOf_22_17 (X : px_X) (M : Nat → Nat → Int32) (J : Nat → Nat → Int64) (R : Nat → Nat → Option Nat) (c e : Nat) (nL : Nat) (xs : Nat → Int32) (D : px_H) (v2 : Int32) (f3 : Nat) (v4 : Int32) (v5 : Int32) (v6 : Int32) (f7 : Nat) : px_p (kX8_bestOf X) 22 17 ([some (.ref 49), some (.ref 28), some (.int (v2)), some (.ref (f3)), some (.int (v4)), some (.int (v5)), some (.int (v6)), some (.ref (f7))], [], (hp M J R c e nL xs D)) =
    cond (decide (M 49 1 ≤ v5))
    (px_run (px_mk (kX8_bestOf X)) 76 ([some (.ref 49), some (.ref 28), some (.int (v2)), some (.ref (f3)), some (.int (v4)), some (.int (v5)), some (.int (v6)), some (.ref (f7))], [], (hp M J R c e nL xs D)))
    (px_run (px_mk (kX8_bestOf X)) 76 ([some (.ref 49), some (.ref 28), some (.int (v2)), some (.ref (f3)), some (.int (v6)), some (.int (M 49 1)), some (.int (v6)), some (.ref (f7))], [], (hp M J R c e nL xs D))) := rfl
