/-! block equations over the fixed layout (written by wip/whole/seg.py) -/
set_option maxRecDepth 40000 in
theorem eX11_mark_0 (X : px_X) (M : Nat → Nat → Int32) (J : Nat → Nat → Int64) (R : Nat → Nat → Option Nat) (c e : Nat) (nL : Nat) (xs : Nat → Int32) (D : px_H) (v1 : Int32) (v2 : Int32) (v3 : Int32) : px_run (px_mk (kX11_mark X)) 0 ([some (.ref 13), some (.int (v1)), some (.int (v2)), some (.int (v3))], [], (hp M J R c e nL xs D)) =
    px_bd (X 80 [.ref 14, .int (v1), .int (v2), .int (v3)] (hp M J R c e nL xs D))
    (fun v G1 => px_p (kX11_mark X) 0 6 ([some (.ref 13), some (.int (v1)), some (.int (v2)), some (.int (v3))], px_psh v [], G1)) := (px_run_eq _ _ _).trans rfl
set_option maxRecDepth 40000 in
theorem eX11_mark_0_6 (X : px_X) (M : Nat → Nat → Int32) (J : Nat → Nat → Int64) (R : Nat → Nat → Option Nat) (c e : Nat) (nL : Nat) (xs : Nat → Int32) (D : px_H) (v1 : Int32) (v2 : Int32) (v3 : Int32) (w0 : Int32) : px_p (kX11_mark X) 0 6 ([some (.ref 13), some (.int (v1)), some (.int (v2)), some (.int (v3))], [.int (w0)], (hp M J R c e nL xs D)) =
    some (some (.int (w0)), (hp M J R c e nL xs D)) := rfl
set_option maxRecDepth 40000 in
theorem eX11_tape_0 (X : px_X) (M : Nat → Nat → Int32) (J : Nat → Nat → Int64) (R : Nat → Nat → Option Nat) (c e : Nat) (nL : Nat) (xs : Nat → Int32) (D : px_H) (v1 : Int32) (v2 : Int32) (v3 : Int32) : px_run (px_mk (kX11_tape X)) 0 ([some (.ref 13), some (.int (v1)), some (.int (v2)), some (.int (v3))], [], (hp M J R c e nL xs D)) =
    px_bd (X 81 [.ref 14, .int (v1), .int (v2), .int (v3)] (hp M J R c e nL xs D))
    (fun v G1 => px_p (kX11_tape X) 0 6 ([some (.ref 13), some (.int (v1)), some (.int (v2)), some (.int (v3))], px_psh v [], G1)) := (px_run_eq _ _ _).trans rfl
set_option maxRecDepth 40000 in
theorem eX11_tape_0_6 (X : px_X) (M : Nat → Nat → Int32) (J : Nat → Nat → Int64) (R : Nat → Nat → Option Nat) (c e : Nat) (nL : Nat) (xs : Nat → Int32) (D : px_H) (v1 : Int32) (v2 : Int32) (v3 : Int32) (w0 : Int32) : px_p (kX11_tape X) 0 6 ([some (.ref 13), some (.int (v1)), some (.int (v2)), some (.int (v3))], [.int (w0)], (hp M J R c e nL xs D)) =
    some (some (.int (w0)), (hp M J R c e nL xs D)) := rfl
set_option maxRecDepth 40000 in
theorem eX11_tapes_0 (X : px_X) (M : Nat → Nat → Int32) (J : Nat → Nat → Int64) (R : Nat → Nat → Option Nat) (c e : Nat) (nL : Nat) (xs : Nat → Int32) (D : px_H) (v1 : Int32) (v2 : Int32) (v3 : Int32) : px_run (px_mk (kX11_tapes X)) 0 ([some (.ref 13), some (.int (v1)), some (.int (v2)), some (.int (v3)), none, none, none, none], [], (hp M J R c e nL xs D)) =
    px_bd (X 70 [.ref 59, .int (v1)] (hp M J R c e nL xs D))
    (fun v G1 => px_p (kX11_tapes X) 0 4 ([some (.ref 13), some (.int (v1)), some (.int (v2)), some (.int (v3)), none, none, none, none], px_psh v [], G1)) := (px_run_eq _ _ _).trans rfl
set_option maxRecDepth 40000 in
theorem eX11_tapes_0_4 (X : px_X) (M : Nat → Nat → Int32) (J : Nat → Nat → Int64) (R : Nat → Nat → Option Nat) (c e : Nat) (nL : Nat) (xs : Nat → Int32) (D : px_H) (v1 : Int32) (v2 : Int32) (v3 : Int32) (w0 : Int32) : px_p (kX11_tapes X) 0 4 ([some (.ref 13), some (.int (v1)), some (.int (v2)), some (.int (v3)), none, none, none, none], [.int (w0)], (hp M J R c e nL xs D)) =
    cond (decide (w0 = 0))
    (px_run (px_mk (kX11_tapes X)) 15 ([some (.ref 13), some (.int (v1)), some (.int (v2)), some (.int (v3)), none, none, none, none], [], (hp M J R c e nL xs D)))
    (cond (decide (0 ≤ v3))
    (px_run (px_mk (kX11_tapes X)) 18 ([some (.ref 13), some (.int (v1)), some (.int (v2)), some (.int (v3)), none, none, none, none], [], (hp M J R c e nL xs D)))
    (px_run (px_mk (kX11_tapes X)) 15 ([some (.ref 13), some (.int (v1)), some (.int (v2)), some (.int (v3)), none, none, none, none], [], (hp M J R c e nL xs D)))) := rfl
set_option maxRecDepth 40000 in
theorem eX11_tapes_15 (X : px_X) (M : Nat → Nat → Int32) (J : Nat → Nat → Int64) (R : Nat → Nat → Option Nat) (c e : Nat) (nL : Nat) (xs : Nat → Int32) (D : px_H) (o0 : Option Value) (o1 : Option Value) (o2 : Option Value) (o3 : Option Value) (o4 : Option Value) (o5 : Option Value) (o6 : Option Value) (o7 : Option Value) : px_run (px_mk (kX11_tapes X)) 15 ([o0, o1, o2, o3, o4, o5, o6, o7], [], (hp M J R c e nL xs D)) =
    some (some (.int ((-2))), (hp M J R c e nL xs D)) := (px_run_eq _ _ _).trans rfl
set_option maxRecDepth 40000 in
theorem eX11_tapes_18 (X : px_X) (M : Nat → Nat → Int32) (J : Nat → Nat → Int64) (R : Nat → Nat → Option Nat) (c e : Nat) (nL : Nat) (xs : Nat → Int32) (D : px_H) (v1 : Int32) (v2 : Int32) (v3 : Int32) (o4 : Option Value) (o5 : Option Value) (o6 : Option Value) (o7 : Option Value) : px_run (px_mk (kX11_tapes X)) 18 ([some (.ref 13), some (.int (v1)), some (.int (v2)), some (.int (v3)), o4, o5, o6, o7], [], (hp M J R c e nL xs D)) =
    px_bd (X 75 [.ref 59, .int (v1)] (hp M J R c e nL xs D))
    (fun v G1 => px_p (kX11_tapes X) 18 4 ([some (.ref 13), some (.int (v1)), some (.int (v2)), some (.int (v3)), none, none, none, none], px_psh v [], G1)) := (px_run_eq _ _ _).trans rfl
set_option maxRecDepth 40000 in
theorem eX11_tapes_18_4 (X : px_X) (M : Nat → Nat → Int32) (J : Nat → Nat → Int64) (R : Nat → Nat → Option Nat) (c e : Nat) (nL : Nat) (xs : Nat → Int32) (D : px_H) (v1 : Int32) (v2 : Int32) (v3 : Int32) (w0 : Int32) : px_p (kX11_tapes X) 18 4 ([some (.ref 13), some (.int (v1)), some (.int (v2)), some (.int (v3)), none, none, none, none], [.int (w0)], (hp M J R c e nL xs D)) =
    cond (decide (w0 = 0))
    (px_run (px_mk (kX11_tapes X)) 36 ([some (.ref 13), some (.int (v1)), some (.int (v2)), some (.int (v3)), some (.int (w0)), none, none, none], [], (hp M J R c e nL xs D)))
    (some (some (.int (w0)), (hp M J R c e nL xs D))) := rfl
set_option maxRecDepth 40000 in
theorem eX11_tapes_36 (X : px_X) (M : Nat → Nat → Int32) (J : Nat → Nat → Int64) (R : Nat → Nat → Option Nat) (c e : Nat) (nL : Nat) (xs : Nat → Int32) (D : px_H) (v1 : Int32) (v2 : Int32) (v3 : Int32) (o4 : Option Value) (o5 : Option Value) (o6 : Option Value) (o7 : Option Value) : px_run (px_mk (kX11_tapes X)) 36 ([some (.ref 13), some (.int (v1)), some (.int (v2)), some (.int (v3)), o4, o5, o6, o7], [], (hp M J R c e nL xs D)) =
    px_run (px_mk (kX11_tapes X)) 42 ([some (.ref 13), some (.int (v1)), some (.int (v2)), some (.int (v3)), none, some (.int (v2)), some (.int (0)), none], [], (hp M J R c e nL xs D)) := (px_run_eq _ _ _).trans rfl
set_option maxRecDepth 40000 in
theorem eX11_tapes_42 (X : px_X) (M : Nat → Nat → Int32) (J : Nat → Nat → Int64) (R : Nat → Nat → Option Nat) (c e : Nat) (nL : Nat) (xs : Nat → Int32) (D : px_H) (v1 : Int32) (o2 : Option Value) (v3 : Int32) (o4 : Option Value) (v5 : Int32) (v6 : Int32) (o7 : Option Value) : px_run (px_mk (kX11_tapes X)) 42 ([some (.ref 13), some (.int (v1)), o2, some (.int (v3)), o4, some (.int (v5)), some (.int (v6)), o7], [], (hp M J R c e nL xs D)) =
    cond (decide (v3 ≤ v6))
    (px_run (px_mk (kX11_tapes X)) 105 ([some (.ref 13), some (.int (v1)), none, some (.int (v3)), none, some (.int (v5)), some (.int (v6)), none], [], (hp M J R c e nL xs D)))
    (px_bd (X 76 [.ref 59, .int (v1), .int (v5)] (hp M J R c e nL xs D))
    (fun v G1 => px_p (kX11_tapes X) 42 8 ([some (.ref 13), some (.int (v1)), none, some (.int (v3)), none, some (.int (v5)), some (.int (v6)), none], px_psh v [], G1))) := (px_run_eq _ _ _).trans rfl
set_option maxRecDepth 40000 in
theorem eX11_tapes_105 (X : px_X) (M : Nat → Nat → Int32) (J : Nat → Nat → Int64) (R : Nat → Nat → Option Nat) (c e : Nat) (nL : Nat) (xs : Nat → Int32) (D : px_H) (o1 : Option Value) (o2 : Option Value) (o3 : Option Value) (o4 : Option Value) (o5 : Option Value) (o6 : Option Value) (o7 : Option Value) : px_run (px_mk (kX11_tapes X)) 105 ([some (.ref 13), o1, o2, o3, o4, o5, o6, o7], [], (hp M J R c e nL xs D)) =
    some (some (.int (M 14 1)), (hp M J R c e nL xs D)) := (px_run_eq _ _ _).trans rfl
set_option maxRecDepth 40000 in
theorem eX11_tapes_42_8 (X : px_X) (M : Nat → Nat → Int32) (J : Nat → Nat → Int64) (R : Nat → Nat → Option Nat) (c e : Nat) (nL : Nat) (xs : Nat → Int32) (D : px_H) (v1 : Int32) (v3 : Int32) (v5 : Int32) (v6 : Int32) (w0 : Int32) : px_p (kX11_tapes X) 42 8 ([some (.ref 13), some (.int (v1)), none, some (.int (v3)), none, some (.int (v5)), some (.int (v6)), none], [.int (w0)], (hp M J R c e nL xs D)) =
    cond (decide (w0 = 0))
    (px_run (px_mk (kX11_tapes X)) 76 ([some (.ref 13), some (.int (v1)), none, some (.int (v3)), none, some (.int (v5)), some (.int (v6)), none], [], (hp M J R c e nL xs D)))
    (px_bd (X 76 [.ref 59, .int (v1), .int ((v5 + 2))] (hp M J R c e nL xs D))
    (fun v G1 => px_p (kX11_tapes X) 42 16 ([some (.ref 13), some (.int (v1)), none, some (.int (v3)), none, some (.int (v5)), some (.int (v6)), none], px_psh v [], G1))) := rfl
set_option maxRecDepth 40000 in
theorem eX11_tapes_76 (X : px_X) (M : Nat → Nat → Int32) (J : Nat → Nat → Int64) (R : Nat → Nat → Option Nat) (c e : Nat) (nL : Nat) (xs : Nat → Int32) (D : px_H) (o0 : Option Value) (o1 : Option Value) (o2 : Option Value) (o3 : Option Value) (o4 : Option Value) (o5 : Option Value) (o6 : Option Value) (o7 : Option Value) : px_run (px_mk (kX11_tapes X)) 76 ([o0, o1, o2, o3, o4, o5, o6, o7], [], (hp M J R c e nL xs D)) =
    some (some (.int ((-12))), (hp M J R c e nL xs D)) := (px_run_eq _ _ _).trans rfl
set_option maxRecDepth 40000 in
theorem eX11_tapes_42_16 (X : px_X) (M : Nat → Nat → Int32) (J : Nat → Nat → Int64) (R : Nat → Nat → Option Nat) (c e : Nat) (nL : Nat) (xs : Nat → Int32) (D : px_H) (v1 : Int32) (v3 : Int32) (v5 : Int32) (v6 : Int32) (w0 : Int32) : px_p (kX11_tapes X) 42 16 ([some (.ref 13), some (.int (v1)), none, some (.int (v3)), none, some (.int (v5)), some (.int (v6)), none], [.int (w0)], (hp M J R c e nL xs D)) =
    cond (decide (¬ w0 = 0))
    (px_run (px_mk (kX11_tapes X)) 79 ([some (.ref 13), some (.int (v1)), none, some (.int (v3)), none, some (.int (v5)), some (.int (v6)), none], [], (hp M J R c e nL xs D)))
    (px_run (px_mk (kX11_tapes X)) 76 ([some (.ref 13), some (.int (v1)), none, some (.int (v3)), none, some (.int (v5)), some (.int (v6)), none], [], (hp M J R c e nL xs D))) := rfl
set_option maxRecDepth 40000 in
theorem eX11_tapes_79 (X : px_X) (M : Nat → Nat → Int32) (J : Nat → Nat → Int64) (R : Nat → Nat → Option Nat) (c e : Nat) (nL : Nat) (xs : Nat → Int32) (D : px_H) (v1 : Int32) (o2 : Option Value) (v3 : Int32) (o4 : Option Value) (v5 : Int32) (v6 : Int32) (o7 : Option Value) : px_run (px_mk (kX11_tapes X)) 79 ([some (.ref 13), some (.int (v1)), o2, some (.int (v3)), o4, some (.int (v5)), some (.int (v6)), o7], [], (hp M J R c e nL xs D)) =
    px_bd (X 124 [.ref 13, .int (v1), .int (v5)] (hp M J R c e nL xs D))
    (fun v G1 => px_p (kX11_tapes X) 79 4 ([some (.ref 13), some (.int (v1)), none, some (.int (v3)), none, some (.int (v5)), some (.int (v6)), none], px_psh v [], G1)) := (px_run_eq _ _ _).trans rfl
set_option maxRecDepth 40000 in
theorem eX11_tapes_79_4 (X : px_X) (M : Nat → Nat → Int32) (J : Nat → Nat → Int64) (R : Nat → Nat → Option Nat) (c e : Nat) (nL : Nat) (xs : Nat → Int32) (D : px_H) (v1 : Int32) (v3 : Int32) (v5 : Int32) (v6 : Int32) (w0 : Int32) : px_p (kX11_tapes X) 79 4 ([some (.ref 13), some (.int (v1)), none, some (.int (v3)), none, some (.int (v5)), some (.int (v6)), none], [.int (w0)], (hp M J R c e nL xs D)) =
    cond (decide (0 ≤ w0))
    (px_run (px_mk (kX11_tapes X)) 96 ([some (.ref 13), some (.int (v1)), none, some (.int (v3)), none, some (.int (v5)), some (.int (v6)), some (.int (w0))], [], (hp M J R c e nL xs D)))
    (some (some (.int (w0)), (hp M J R c e nL xs D))) := rfl
set_option maxRecDepth 40000 in
theorem eX11_tapes_96 (X : px_X) (M : Nat → Nat → Int32) (J : Nat → Nat → Int64) (R : Nat → Nat → Option Nat) (c e : Nat) (nL : Nat) (xs : Nat → Int32) (D : px_H) (v1 : Int32) (o2 : Option Value) (v3 : Int32) (o4 : Option Value) (v5 : Int32) (v6 : Int32) (o7 : Option Value) : px_run (px_mk (kX11_tapes X)) 96 ([some (.ref 13), some (.int (v1)), o2, some (.int (v3)), o4, some (.int (v5)), some (.int (v6)), o7], [], (hp M J R c e nL xs D)) =
    px_run (px_mk (kX11_tapes X)) 42 ([some (.ref 13), some (.int (v1)), none, some (.int (v3)), none, some (.int ((v5 + 3))), some (.int ((v6 + 1))), none], [], (hp M J R c e nL xs D)) := (px_run_eq _ _ _).trans rfl
set_option maxRecDepth 40000 in
theorem eX11_tapeFrom_0 (X : px_X) (M : Nat → Nat → Int32) (J : Nat → Nat → Int64) (R : Nat → Nat → Option Nat) (c e : Nat) (nL : Nat) (xs : Nat → Int32) (D : px_H) (v1 : Int32) (v2 : Int32) : px_run (px_mk (kX11_tapeFrom X)) 0 ([some (.ref 13), some (.int (v1)), some (.int (v2))], [], (hp M J R c e nL xs D)) =
    px_bd (X 77 [.ref 59, .int (v1), .int (v2)] (hp M J R c e nL xs D))
    (fun v G1 => px_p (kX11_tapeFrom X) 0 5 ([some (.ref 13), some (.int (v1)), some (.int (v2))], px_psh v [], G1)) := (px_run_eq _ _ _).trans rfl
set_option maxRecDepth 40000 in
theorem eX11_tapeFrom_0_5 (X : px_X) (M : Nat → Nat → Int32) (J : Nat → Nat → Int64) (R : Nat → Nat → Option Nat) (c e : Nat) (nL : Nat) (xs : Nat → Int32) (D : px_H) (v1 : Int32) (v2 : Int32) (w0 : Int32) : px_p (kX11_tapeFrom X) 0 5 ([some (.ref 13), some (.int (v1)), some (.int (v2))], [.int (w0)], (hp M J R c e nL xs D)) =
    cond (decide (w0 = 0))
    (px_run (px_mk (kX11_tapeFrom X)) 40 ([some (.ref 13), some (.int (v1)), some (.int (v2))], [], (hp M J R c e nL xs D)))
    (px_bd (X 77 [.ref 59, .int (v1), .int ((v2 + 1))] (hp M J R c e nL xs D))
    (fun v G1 => px_p (kX11_tapeFrom X) 0 13 ([some (.ref 13), some (.int (v1)), some (.int (v2))], px_psh v [], G1))) := rfl
set_option maxRecDepth 40000 in
theorem eX11_tapeFrom_40 (X : px_X) (M : Nat → Nat → Int32) (J : Nat → Nat → Int64) (R : Nat → Nat → Option Nat) (c e : Nat) (nL : Nat) (xs : Nat → Int32) (D : px_H) (o1 : Option Value) (o2 : Option Value) : px_run (px_mk (kX11_tapeFrom X)) 40 ([some (.ref 13), o1, o2], [], (hp M J R c e nL xs D)) =
    some (some (.int (M 14 1)), (hp M J R c e nL xs D)) := (px_run_eq _ _ _).trans rfl
set_option maxRecDepth 40000 in
theorem eX11_tapeFrom_0_13 (X : px_X) (M : Nat → Nat → Int32) (J : Nat → Nat → Int64) (R : Nat → Nat → Option Nat) (c e : Nat) (nL : Nat) (xs : Nat → Int32) (D : px_H) (v1 : Int32) (v2 : Int32) (w0 : Int32) : px_p (kX11_tapeFrom X) 0 13 ([some (.ref 13), some (.int (v1)), some (.int (v2))], [.int (w0)], (hp M J R c e nL xs D)) =
    cond (decide (w0 = 0))
    (px_run (px_mk (kX11_tapeFrom X)) 40 ([some (.ref 13), some (.int (v1)), some (.int (v2))], [], (hp M J R c e nL xs D)))
    (px_bd (X 77 [.ref 59, .int (v1), .int ((v2 + 2))] (hp M J R c e nL xs D))
    (fun v G1 => px_p (kX11_tapeFrom X) 0 21 ([some (.ref 13), some (.int (v1)), some (.int (v2))], px_psh v [], G1))) := rfl
set_option maxRecDepth 40000 in
theorem eX11_tapeFrom_0_21 (X : px_X) (M : Nat → Nat → Int32) (J : Nat → Nat → Int64) (R : Nat → Nat → Option Nat) (c e : Nat) (nL : Nat) (xs : Nat → Int32) (D : px_H) (v1 : Int32) (v2 : Int32) (w0 : Int32) : px_p (kX11_tapeFrom X) 0 21 ([some (.ref 13), some (.int (v1)), some (.int (v2))], [.int (w0)], (hp M J R c e nL xs D)) =
    cond (decide (¬ w0 = 0))
    (px_run (px_mk (kX11_tapeFrom X)) 48 ([some (.ref 13), some (.int (v1)), some (.int (v2))], [], (hp M J R c e nL xs D)))
    (px_run (px_mk (kX11_tapeFrom X)) 40 ([some (.ref 13), some (.int (v1)), some (.int (v2))], [], (hp M J R c e nL xs D))) := rfl
set_option maxRecDepth 40000 in
theorem eX11_tapeFrom_48 (X : px_X) (M : Nat → Nat → Int32) (J : Nat → Nat → Int64) (R : Nat → Nat → Option Nat) (c e : Nat) (nL : Nat) (xs : Nat → Int32) (D : px_H) (v1 : Int32) (v2 : Int32) : px_run (px_mk (kX11_tapeFrom X)) 48 ([some (.ref 13), some (.int (v1)), some (.int (v2))], [], (hp M J R c e nL xs D)) =
    px_bd (X 78 [.ref 59, .int (v1), .int (v2)] (hp M J R c e nL xs D))
    (fun v G1 => px_p (kX11_tapeFrom X) 48 7 ([some (.ref 13), some (.int (v1)), some (.int (v2))], px_psh v [.ref 14], G1)) := (px_run_eq _ _ _).trans rfl
set_option maxRecDepth 40000 in
theorem eX11_tapeFrom_48_7 (X : px_X) (M : Nat → Nat → Int32) (J : Nat → Nat → Int64) (R : Nat → Nat → Option Nat) (c e : Nat) (nL : Nat) (xs : Nat → Int32) (D : px_H) (v1 : Int32) (v2 : Int32) (w1 : Int32) : px_p (kX11_tapeFrom X) 48 7 ([some (.ref 13), some (.int (v1)), some (.int (v2))], [.int (w1), .ref 14], (hp M J R c e nL xs D)) =
    px_bd (X 78 [.ref 59, .int (v1), .int ((v2 + 1))] (hp M J R c e nL xs D))
    (fun v G1 => px_p (kX11_tapeFrom X) 48 14 ([some (.ref 13), some (.int (v1)), some (.int (v2))], px_psh v [.int (w1), .ref 14], G1)) := rfl
set_option maxRecDepth 40000 in
theorem eX11_tapeFrom_48_14 (X : px_X) (M : Nat → Nat → Int32) (J : Nat → Nat → Int64) (R : Nat → Nat → Option Nat) (c e : Nat) (nL : Nat) (xs : Nat → Int32) (D : px_H) (v1 : Int32) (v2 : Int32) (w1 : Int32) (w2 : Int32) : px_p (kX11_tapeFrom X) 48 14 ([some (.ref 13), some (.int (v1)), some (.int (v2))], [.int (w2), .int (w1), .ref 14], (hp M J R c e nL xs D)) =
    px_bd (X 78 [.ref 59, .int (v1), .int ((v2 + 2))] (hp M J R c e nL xs D))
    (fun v G1 => px_p (kX11_tapeFrom X) 48 21 ([some (.ref 13), some (.int (v1)), some (.int (v2))], px_psh v [.int (w2), .int (w1), .ref 14], G1)) := rfl
set_option maxRecDepth 40000 in
theorem eX11_tapeFrom_48_21 (X : px_X) (M : Nat → Nat → Int32) (J : Nat → Nat → Int64) (R : Nat → Nat → Option Nat) (c e : Nat) (nL : Nat) (xs : Nat → Int32) (D : px_H) (v1 : Int32) (v2 : Int32) (w1 : Int32) (w2 : Int32) (w3 : Int32) : px_p (kX11_tapeFrom X) 48 21 ([some (.ref 13), some (.int (v1)), some (.int (v2))], [.int (w3), .int (w2), .int (w1), .ref 14], (hp M J R c e nL xs D)) =
    px_bd (X 81 [.ref 14, .int (w1), .int (w2), .int (w3)] (hp M J R c e nL xs D))
    (fun v G1 => px_p (kX11_tapeFrom X) 48 22 ([some (.ref 13), some (.int (v1)), some (.int (v2))], px_psh v [], G1)) := rfl
set_option maxRecDepth 40000 in
theorem eX11_tapeFrom_48_22 (X : px_X) (M : Nat → Nat → Int32) (J : Nat → Nat → Int64) (R : Nat → Nat → Option Nat) (c e : Nat) (nL : Nat) (xs : Nat → Int32) (D : px_H) (v1 : Int32) (v2 : Int32) (w0 : Int32) : px_p (kX11_tapeFrom X) 48 22 ([some (.ref 13), some (.int (v1)), some (.int (v2))], [.int (w0)], (hp M J R c e nL xs D)) =
    some (some (.int (w0)), (hp M J R c e nL xs D)) := rfl
set_option maxRecDepth 40000 in
theorem eX11_bar_0 (X : px_X) (M : Nat → Nat → Int32) (J : Nat → Nat → Int64) (R : Nat → Nat → Option Nat) (c e : Nat) (nL : Nat) (xs : Nat → Int32) (D : px_H) (v1 : Int32) : px_run (px_mk (kX11_bar X)) 0 ([some (.ref 13), some (.int (v1))], [], (hp M J R c e nL xs D)) =
    px_bd (X 84 [.ref 14, .int (v1)] (hp M J R c e nL xs D))
    (fun v G1 => px_p (kX11_bar X) 0 4 ([some (.ref 13), some (.int (v1))], px_psh v [], G1)) := (px_run_eq _ _ _).trans rfl
set_option maxRecDepth 40000 in
theorem eX11_bar_0_4 (X : px_X) (M : Nat → Nat → Int32) (J : Nat → Nat → Int64) (R : Nat → Nat → Option Nat) (c e : Nat) (nL : Nat) (xs : Nat → Int32) (D : px_H) (v1 : Int32) (w0 : Int32) : px_p (kX11_bar X) 0 4 ([some (.ref 13), some (.int (v1))], [.int (w0)], (hp M J R c e nL xs D)) =
    some (some (.int (w0)), (hp M J R c e nL xs D)) := rfl
set_option maxRecDepth 40000 in
theorem eX11_fit_0 (X : px_X) (M : Nat → Nat → Int32) (J : Nat → Nat → Int64) (R : Nat → Nat → Option Nat) (c e : Nat) (nL : Nat) (xs : Nat → Int32) (D : px_H) (v1 : Int32) (v2 : Int32) : px_run (px_mk (kX11_fit X)) 0 ([some (.ref 13), some (.int (v1)), some (.int (v2))], [], (hp M J R c e nL xs D)) =
    px_bd (X 85 [.ref 14, .int (v1), .int (v2)] (hp M J R c e nL xs D))
    (fun v G1 => px_p (kX11_fit X) 0 5 ([some (.ref 13), some (.int (v1)), some (.int (v2))], px_psh v [], G1)) := (px_run_eq _ _ _).trans rfl
set_option maxRecDepth 40000 in
theorem eX11_fit_0_5 (X : px_X) (M : Nat → Nat → Int32) (J : Nat → Nat → Int64) (R : Nat → Nat → Option Nat) (c e : Nat) (nL : Nat) (xs : Nat → Int32) (D : px_H) (v1 : Int32) (v2 : Int32) (w0 : Int64) : px_p (kX11_fit X) 0 5 ([some (.ref 13), some (.int (v1)), some (.int (v2))], [.long (w0)], (hp M J R c e nL xs D)) =
    some (some (.long (w0)), (hp M J R c e nL xs D)) := rfl
set_option maxRecDepth 40000 in
theorem eX11_tapeTold_0 (X : px_X) (M : Nat → Nat → Int32) (J : Nat → Nat → Int64) (R : Nat → Nat → Option Nat) (c e : Nat) (nL : Nat) (xs : Nat → Int32) (D : px_H) (v1 : Int32) (v2 : Int32) : px_run (px_mk (kX11_tapeTold X)) 0 ([some (.ref 13), some (.int (v1)), some (.int (v2))], [], (hp M J R c e nL xs D)) =
    px_bd (X 86 [.ref 14, .int (v1), .int (v2)] (hp M J R c e nL xs D))
    (fun v G1 => px_p (kX11_tapeTold X) 0 5 ([some (.ref 13), some (.int (v1)), some (.int (v2))], px_psh v [], G1)) := (px_run_eq _ _ _).trans rfl
set_option maxRecDepth 40000 in
theorem eX11_tapeTold_0_5 (X : px_X) (M : Nat → Nat → Int32) (J : Nat → Nat → Int64) (R : Nat → Nat → Option Nat) (c e : Nat) (nL : Nat) (xs : Nat → Int32) (D : px_H) (v1 : Int32) (v2 : Int32) (w0 : Int64) : px_p (kX11_tapeTold X) 0 5 ([some (.ref 13), some (.int (v1)), some (.int (v2))], [.long (w0)], (hp M J R c e nL xs D)) =
    some (some (.long (w0)), (hp M J R c e nL xs D)) := rfl
set_option maxRecDepth 40000 in
theorem eX11_sum_0 (X : px_X) (M : Nat → Nat → Int32) (J : Nat → Nat → Int64) (R : Nat → Nat → Option Nat) (c e : Nat) (nL : Nat) (xs : Nat → Int32) (D : px_H)  : px_run (px_mk (kX11_sum X)) 0 ([some (.ref 13)], [], (hp M J R c e nL xs D)) =
    px_bd (X 87 [.ref 14] (hp M J R c e nL xs D))
    (fun v G1 => px_p (kX11_sum X) 0 3 ([some (.ref 13)], px_psh v [], G1)) := (px_run_eq _ _ _).trans rfl
set_option maxRecDepth 40000 in
theorem eX11_sum_0_3 (X : px_X) (M : Nat → Nat → Int32) (J : Nat → Nat → Int64) (R : Nat → Nat → Option Nat) (c e : Nat) (nL : Nat) (xs : Nat → Int32) (D : px_H) (w0 : Int64) : px_p (kX11_sum X) 0 3 ([some (.ref 13)], [.long (w0)], (hp M J R c e nL xs D)) =
    some (some (.long (w0)), (hp M J R c e nL xs D)) := rfl
set_option maxRecDepth 40000 in
theorem eX11_find_0 (X : px_X) (M : Nat → Nat → Int32) (J : Nat → Nat → Int64) (R : Nat → Nat → Option Nat) (c e : Nat) (nL : Nat) (xs : Nat → Int32) (D : px_H) (v1 : Int32) (v2 : Int32) (v3 : Int32) (v4 : Int32) : px_run (px_mk (kX11_find X)) 0 ([some (.ref 13), some (.int (v1)), some (.int (v2)), some (.int (v3)), some (.int (v4))], [], (hp M J R c e nL xs D)) =
    px_bd (X 110 [.ref 28, .int (v1), .int (v2), .int (v3), .int (v4)] (hp M J R c e nL xs D))
    (fun v G1 => px_p (kX11_find X) 0 7 ([some (.ref 13), some (.int (v1)), some (.int (v2)), some (.int (v3)), some (.int (v4))], px_psh v [], G1)) := (px_run_eq _ _ _).trans rfl
set_option maxRecDepth 40000 in
theorem eX11_find_0_7 (X : px_X) (M : Nat → Nat → Int32) (J : Nat → Nat → Int64) (R : Nat → Nat → Option Nat) (c e : Nat) (nL : Nat) (xs : Nat → Int32) (D : px_H) (v1 : Int32) (v2 : Int32) (v3 : Int32) (v4 : Int32) (w0 : Int32) : px_p (kX11_find X) 0 7 ([some (.ref 13), some (.int (v1)), some (.int (v2)), some (.int (v3)), some (.int (v4))], [.int (w0)], (hp M J R c e nL xs D)) =
    some (some (.int (w0)), (hp M J R c e nL xs D)) := rfl
set_option maxRecDepth 40000 in
theorem eX11_hole_0 (X : px_X) (M : Nat → Nat → Int32) (J : Nat → Nat → Int64) (R : Nat → Nat → Option Nat) (c e : Nat) (nL : Nat) (xs : Nat → Int32) (D : px_H) (v1 : Int32) (v2 : Int32) : px_run (px_mk (kX11_hole X)) 0 ([some (.ref 13), some (.int (v1)), some (.int (v2)), none], [], (hp M J R c e nL xs D)) =
    px_bd (X 112 [.ref 28, .int (v1)] (hp M J R c e nL xs D))
    (fun v G1 => px_p (kX11_hole X) 0 4 ([some (.ref 13), some (.int (v1)), some (.int (v2)), none], px_psh v [], G1)) := (px_run_eq _ _ _).trans rfl
set_option maxRecDepth 40000 in
theorem eX11_hole_0_4 (X : px_X) (M : Nat → Nat → Int32) (J : Nat → Nat → Int64) (R : Nat → Nat → Option Nat) (c e : Nat) (nL : Nat) (xs : Nat → Int32) (D : px_H) (v1 : Int32) (v2 : Int32) (g0 : Nat) : px_p (kX11_hole X) 0 4 ([some (.ref 13), some (.int (v1)), some (.int (v2)), none], [.ref (g0)], (hp M J R c e nL xs D)) =
    cond (decide (v2 < 0))
    (px_run (px_mk (kX11_hole X)) 23 ([some (.ref 13), some (.int (v1)), some (.int (v2)), some (.ref (g0))], [], (hp M J R c e nL xs D)))
    (cond (decide (v2 ≤ 99))
    (px_run (px_mk (kX11_hole X)) 26 ([some (.ref 13), some (.int (v1)), some (.int (v2)), some (.ref (g0))], [], (hp M J R c e nL xs D)))
    (px_run (px_mk (kX11_hole X)) 23 ([some (.ref 13), some (.int (v1)), some (.int (v2)), some (.ref (g0))], [], (hp M J R c e nL xs D)))) := rfl
set_option maxRecDepth 40000 in
theorem eX11_hole_0_4_b (X : px_X) (M : Nat → Nat → Int32) (J : Nat → Nat → Int64) (R : Nat → Nat → Option Nat) (c e : Nat) (nL : Nat) (xs : Nat → Int32) (D : px_H) (v1 : Int32) (v2 : Int32) : px_p (kX11_hole X) 0 4 ([some (.ref 13), some (.int (v1)), some (.int (v2)), none], [.null], (hp M J R c e nL xs D)) =
    px_run (px_mk (kX11_hole X)) 23 ([some (.ref 13), some (.int (v1)), some (.int (v2)), some (.null)], [], (hp M J R c e nL xs D)) := rfl
set_option maxRecDepth 40000 in
theorem eX11_hole_23 (X : px_X) (M : Nat → Nat → Int32) (J : Nat → Nat → Int64) (R : Nat → Nat → Option Nat) (c e : Nat) (nL : Nat) (xs : Nat → Int32) (D : px_H) (o0 : Option Value) (o1 : Option Value) (o2 : Option Value) (o3 : Option Value) : px_run (px_mk (kX11_hole X)) 23 ([o0, o1, o2, o3], [], (hp M J R c e nL xs D)) =
    some (some (.int ((-2))), (hp M J R c e nL xs D)) := (px_run_eq _ _ _).trans rfl
set_option maxRecDepth 40000 in
theorem eX11_hole_26 (X : px_X) (M : Nat → Nat → Int32) (J : Nat → Nat → Int64) (R : Nat → Nat → Option Nat) (c e : Nat) (nL : Nat) (xs : Nat → Int32) (D : px_H) (o0 : Option Value) (o1 : Option Value) (v2 : Int32) (f3 : Nat) : px_run (px_mk (kX11_hole X)) 26 ([o0, o1, some (.int (v2)), some (.ref (f3))], [], (hp M J R c e nL xs D)) =
    px_p (kX11_hole X) 26 2 ([none, none, some (.int (v2)), some (.ref (f3))], [.int (v2), .ref (f3)], (hp M J R c e nL xs D)) := (px_run_eq _ _ _).trans rfl
set_option maxRecDepth 40000 in
theorem eX11_hole_26_2 (X : px_X) (G : px_H) (v2 : Int32) (f3 : Nat) (g0 : Nat) (w1 : Int32) : px_p (kX11_hole X) 26 2 ([none, none, some (.int (v2)), some (.ref (f3))], [.int (w1), .ref (g0)], G) =
    cond (px_isc G (g0) 2)
    (px_bd (X 25 [.ref (g0), .int (w1)] G)
    (fun v G1 => px_p (kX11_hole X) 26 3 ([none, none, some (.int (v2)), some (.ref (f3))], px_psh v [], G1))) none := px_scallV rfl rfl rfl rfl
set_option maxRecDepth 40000 in
theorem eX11_hole_26_3 (X : px_X) (M : Nat → Nat → Int32) (J : Nat → Nat → Int64) (R : Nat → Nat → Option Nat) (c e : Nat) (nL : Nat) (xs : Nat → Int32) (D : px_H) (v2 : Int32) (f3 : Nat) (w0 : Int32) : px_p (kX11_hole X) 26 3 ([none, none, some (.int (v2)), some (.ref (f3))], [.int (w0)], (hp M J R c e nL xs D)) =
    some (some (.int (w0)), (hp M J R c e nL xs D)) := rfl
set_option maxRecDepth 40000 in
theorem eX11_findTold_0 (X : px_X) (M : Nat → Nat → Int32) (J : Nat → Nat → Int64) (R : Nat → Nat → Option Nat) (c e : Nat) (nL : Nat) (xs : Nat → Int32) (D : px_H) (v1 : Int32) (v2 : Int32) : px_run (px_mk (kX11_findTold X)) 0 ([some (.ref 13), some (.int (v1)), some (.int (v2)), none], [], (hp M J R c e nL xs D)) =
    px_bd (X 111 [.ref 28, .int (v1)] (hp M J R c e nL xs D))
    (fun v G1 => px_p (kX11_findTold X) 0 4 ([some (.ref 13), some (.int (v1)), some (.int (v2)), none], px_psh v [], G1)) := (px_run_eq _ _ _).trans rfl
set_option maxRecDepth 40000 in
theorem eX11_findTold_0_4 (X : px_X) (M : Nat → Nat → Int32) (J : Nat → Nat → Int64) (R : Nat → Nat → Option Nat) (c e : Nat) (nL : Nat) (xs : Nat → Int32) (D : px_H) (v1 : Int32) (v2 : Int32) (g0 : Nat) : px_p (kX11_findTold X) 0 4 ([some (.ref 13), some (.int (v1)), some (.int (v2)), none], [.ref (g0)], (hp M J R c e nL xs D)) =
    px_run (px_mk (kX11_findTold X)) 18 ([some (.ref 13), some (.int (v1)), some (.int (v2)), some (.ref (g0))], [], (hp M J R c e nL xs D)) := rfl
set_option maxRecDepth 40000 in
theorem eX11_findTold_0_4_b (X : px_X) (M : Nat → Nat → Int32) (J : Nat → Nat → Int64) (R : Nat → Nat → Option Nat) (c e : Nat) (nL : Nat) (xs : Nat → Int32) (D : px_H) (v1 : Int32) (v2 : Int32) : px_p (kX11_findTold X) 0 4 ([some (.ref 13), some (.int (v1)), some (.int (v2)), none], [.null], (hp M J R c e nL xs D)) =
    px_run (px_mk (kX11_findTold X)) 23 ([some (.ref 13), some (.int (v1)), some (.int (v2)), some (.null)], [.int ((-2))], (hp M J R c e nL xs D)) := rfl
set_option maxRecDepth 40000 in
theorem eX11_findTold_18 (X : px_X) (M : Nat → Nat → Int32) (J : Nat → Nat → Int64) (R : Nat → Nat → Option Nat) (c e : Nat) (nL : Nat) (xs : Nat → Int32) (D : px_H) (o0 : Option Value) (o1 : Option Value) (v2 : Int32) (f3 : Nat) : px_run (px_mk (kX11_findTold X)) 18 ([o0, o1, some (.int (v2)), some (.ref (f3))], [], (hp M J R c e nL xs D)) =
    px_p (kX11_findTold X) 18 2 ([none, none, some (.int (v2)), some (.ref (f3))], [.int (v2), .ref (f3)], (hp M J R c e nL xs D)) := (px_run_eq _ _ _).trans rfl
set_option maxRecDepth 40000 in
theorem eX11_findTold_23 (X : px_X) (M : Nat → Nat → Int32) (J : Nat → Nat → Int64) (R : Nat → Nat → Option Nat) (c e : Nat) (nL : Nat) (xs : Nat → Int32) (D : px_H) (o0 : Option Value) (o1 : Option Value) (o2 : Option Value) (o3 : Option Value) (w0 : Int32) : px_run (px_mk (kX11_findTold X)) 23 ([o0, o1, o2, o3], [.int (w0)], (hp M J R c e nL xs D)) =
    some (some (.int (w0)), (hp M J R c e nL xs D)) := (px_run_eq _ _ _).trans rfl
set_option maxRecDepth 40000 in
theorem eX11_findTold_18_3 (X : px_X) (st : px_S) : px_p (kX11_findTold X) 18 3 st = px_run (px_mk (kX11_findTold X)) 23 st := rfl
set_option maxRecDepth 40000 in
theorem eX11_findTold_18_2 (X : px_X) (G : px_H) (v2 : Int32) (f3 : Nat) (g0 : Nat) (w1 : Int32) : px_p (kX11_findTold X) 18 2 ([none, none, some (.int (v2)), some (.ref (f3))], [.int (w1), .ref (g0)], G) =
    cond (px_isc G (g0) 2)
    (px_bd (X 26 [.ref (g0), .int (w1)] G)
    (fun v G1 => px_p (kX11_findTold X) 18 3 ([none, none, some (.int (v2)), some (.ref (f3))], px_psh v [], G1))) none := px_scallV rfl rfl rfl rfl
set_option maxRecDepth 40000 in
theorem eX11_tank_0 (X : px_X) (M : Nat → Nat → Int32) (J : Nat → Nat → Int64) (R : Nat → Nat → Option Nat) (c e : Nat) (nL : Nat) (xs : Nat → Int32) (D : px_H) (v1 : Int32) (v2 : Int32) : px_run (px_mk (kX11_tank X)) 0 ([some (.ref 13), some (.int (v1)), some (.int (v2))], [], (hp M J R c e nL xs D)) =
    px_bd (X 114 [.ref 28, .int (v1), .int (v2)] (hp M J R c e nL xs D))
    (fun v G1 => px_p (kX11_tank X) 0 5 ([some (.ref 13), some (.int (v1)), some (.int (v2))], px_psh v [], G1)) := (px_run_eq _ _ _).trans rfl
set_option maxRecDepth 40000 in
theorem eX11_tank_0_5 (X : px_X) (M : Nat → Nat → Int32) (J : Nat → Nat → Int64) (R : Nat → Nat → Option Nat) (c e : Nat) (nL : Nat) (xs : Nat → Int32) (D : px_H) (v1 : Int32) (v2 : Int32) (w0 : Int32) : px_p (kX11_tank X) 0 5 ([some (.ref 13), some (.int (v1)), some (.int (v2))], [.int (w0)], (hp M J R c e nL xs D)) =
    some (some (.int (w0)), (hp M J R c e nL xs D)) := rfl
set_option maxRecDepth 40000 in
theorem eX11_tankTold_0 (X : px_X) (M : Nat → Nat → Int32) (J : Nat → Nat → Int64) (R : Nat → Nat → Option Nat) (c e : Nat) (nL : Nat) (xs : Nat → Int32) (D : px_H) (v1 : Int32) (v2 : Int32) : px_run (px_mk (kX11_tankTold X)) 0 ([some (.ref 13), some (.int (v1)), some (.int (v2))], [], (hp M J R c e nL xs D)) =
    px_bd (X 116 [.ref 28, .int (v1), .int (v2)] (hp M J R c e nL xs D))
    (fun v G1 => px_p (kX11_tankTold X) 0 5 ([some (.ref 13), some (.int (v1)), some (.int (v2))], px_psh v [], G1)) := (px_run_eq _ _ _).trans rfl
set_option maxRecDepth 40000 in
theorem eX11_tankTold_0_5 (X : px_X) (M : Nat → Nat → Int32) (J : Nat → Nat → Int64) (R : Nat → Nat → Option Nat) (c e : Nat) (nL : Nat) (xs : Nat → Int32) (D : px_H) (v1 : Int32) (v2 : Int32) (w0 : Int32) : px_p (kX11_tankTold X) 0 5 ([some (.ref 13), some (.int (v1)), some (.int (v2))], [.int (w0)], (hp M J R c e nL xs D)) =
    some (some (.int (w0)), (hp M J R c e nL xs D)) := rfl
set_option maxRecDepth 40000 in
theorem eX11_lift_0 (X : px_X) (M : Nat → Nat → Int32) (J : Nat → Nat → Int64) (R : Nat → Nat → Option Nat) (c e : Nat) (nL : Nat) (xs : Nat → Int32) (D : px_H) (v1 : Int32) (v2 : Int32) (v3 : Int32) : px_run (px_mk (kX11_lift X)) 0 ([some (.ref 13), some (.int (v1)), some (.int (v2)), some (.int (v3)), none, none], [], (hp M J R c e nL xs D)) =
    px_bd (X 136 [.ref 13, .int (v1), .int (v2), .int (v3)] (hp M J R c e nL xs D))
    (fun v G1 => px_p (kX11_lift X) 0 5 ([some (.ref 13), some (.int (v1)), some (.int (v2)), some (.int (v3)), none, none], px_psh v [], G1)) := (px_run_eq _ _ _).trans rfl
set_option maxRecDepth 40000 in
theorem eX11_lift_0_5 (X : px_X) (M : Nat → Nat → Int32) (J : Nat → Nat → Int64) (R : Nat → Nat → Option Nat) (c e : Nat) (nL : Nat) (xs : Nat → Int32) (D : px_H) (v1 : Int32) (v2 : Int32) (v3 : Int32) (w0 : Int32) : px_p (kX11_lift X) 0 5 ([some (.ref 13), some (.int (v1)), some (.int (v2)), some (.int (v3)), none, none], [.int (w0)], (hp M J R c e nL xs D)) =
    cond (decide (0 ≤ w0))
    (px_run (px_mk (kX11_lift X)) 17 ([some (.ref 13), some (.int (v1)), some (.int (v2)), some (.int (v3)), some (.int (w0)), none], [], (hp M J R c e nL xs D)))
    (some (some (.int (w0)), (hp M J R c e nL xs D))) := rfl
set_option maxRecDepth 40000 in
theorem eX11_lift_17 (X : px_X) (M : Nat → Nat → Int32) (J : Nat → Nat → Int64) (R : Nat → Nat → Option Nat) (c e : Nat) (nL : Nat) (xs : Nat → Int32) (D : px_H) (v1 : Int32) (v2 : Int32) (v3 : Int32) (v4 : Int32) (o5 : Option Value) : px_run (px_mk (kX11_lift X)) 17 ([some (.ref 13), some (.int (v1)), some (.int (v2)), some (.int (v3)), some (.int (v4)), o5], [], (hp M J R c e nL xs D)) =
    cond (decide (v4 ≤ 0))
    (px_run (px_mk (kX11_lift X)) 28 ([some (.ref 13), some (.int (v1)), some (.int (v2)), some (.int (v3)), some (.int (v4)), none], [], (hp M J R c e nL xs D)))
    (some (some (.int (((-20) - v4))), (hp M J R c e nL xs D))) := (px_run_eq _ _ _).trans rfl
set_option maxRecDepth 40000 in
theorem eX11_lift_28 (X : px_X) (M : Nat → Nat → Int32) (J : Nat → Nat → Int64) (R : Nat → Nat → Option Nat) (c e : Nat) (nL : Nat) (xs : Nat → Int32) (D : px_H) (v1 : Int32) (v2 : Int32) (v3 : Int32) (o4 : Option Value) (o5 : Option Value) : px_run (px_mk (kX11_lift X)) 28 ([some (.ref 13), some (.int (v1)), some (.int (v2)), some (.int (v3)), o4, o5], [], (hp M J R c e nL xs D)) =
    px_bd (X 111 [.ref 28, .int (v1)] (hp M J R c e nL xs D))
    (fun v G1 => px_p (kX11_lift X) 28 4 ([some (.ref 13), some (.int (v1)), some (.int (v2)), some (.int (v3)), none, none], px_psh v [], G1)) := (px_run_eq _ _ _).trans rfl
set_option maxRecDepth 40000 in
theorem eX11_lift_28_4 (X : px_X) (M : Nat → Nat → Int32) (J : Nat → Nat → Int64) (R : Nat → Nat → Option Nat) (c e : Nat) (nL : Nat) (xs : Nat → Int32) (D : px_H) (v1 : Int32) (v2 : Int32) (v3 : Int32) (g0 : Nat) : px_p (kX11_lift X) 28 4 ([some (.ref 13), some (.int (v1)), some (.int (v2)), some (.int (v3)), none, none], [.ref (g0)], (hp M J R c e nL xs D)) =
    px_p (kX11_lift X) 28 10 ([some (.ref 13), some (.int (v1)), some (.int (v2)), some (.int (v3)), none, some (.ref (g0))], [.int (v3), .int (v2), .ref (g0)], (hp M J R c e nL xs D)) := rfl
set_option maxRecDepth 40000 in
theorem eX11_lift_28_4_b (X : px_X) (M : Nat → Nat → Int32) (J : Nat → Nat → Int64) (R : Nat → Nat → Option Nat) (c e : Nat) (nL : Nat) (xs : Nat → Int32) (D : px_H) (v1 : Int32) (v2 : Int32) (v3 : Int32) : px_p (kX11_lift X) 28 4 ([some (.ref 13), some (.int (v1)), some (.int (v2)), some (.int (v3)), none, none], [.null], (hp M J R c e nL xs D)) =
    px_run (px_mk (kX11_lift X)) 50 ([some (.ref 13), some (.int (v1)), some (.int (v2)), some (.int (v3)), none, some (.null)], [], (hp M J R c e nL xs D)) := rfl
set_option maxRecDepth 40000 in
theorem eX11_lift_28_11 (X : px_X) (st : px_S) : px_p (kX11_lift X) 28 11 st = px_run (px_mk (kX11_lift X)) 50 st := rfl
set_option maxRecDepth 40000 in
theorem eX11_lift_28_10 (X : px_X) (G : px_H) (v1 : Int32) (v2 : Int32) (v3 : Int32) (f5 : Nat) (g0 : Nat) (w1 : Int32) (w2 : Int32) : px_p (kX11_lift X) 28 10 ([some (.ref 13), some (.int (v1)), some (.int (v2)), some (.int (v3)), none, some (.ref (f5))], [.int (w2), .int (w1), .ref (g0)], G) =
    cond (px_isc G (g0) 2)
    (px_bd (X 28 [.ref (g0), .int (w1), .int (w2)] G)
    (fun v G1 => px_p (kX11_lift X) 28 11 ([some (.ref 13), some (.int (v1)), some (.int (v2)), some (.int (v3)), none, some (.ref (f5))], px_psh v [], G1))) none := px_scallV rfl rfl rfl rfl
set_option maxRecDepth 40000 in
theorem eX11_lift_50 (X : px_X) (M : Nat → Nat → Int32) (J : Nat → Nat → Int64) (R : Nat → Nat → Option Nat) (c e : Nat) (nL : Nat) (xs : Nat → Int32) (D : px_H) (o0 : Option Value) (o1 : Option Value) (o2 : Option Value) (o3 : Option Value) (o4 : Option Value) (o5 : Option Value) : px_run (px_mk (kX11_lift X)) 50 ([o0, o1, o2, o3, o4, o5], [], (hp M J R c e nL xs D)) =
    some (some (.int (1)), (hp M J R c e nL xs D)) := (px_run_eq _ _ _).trans rfl
set_option maxRecDepth 40000 in
theorem eX11_why_0 (X : px_X) (M : Nat → Nat → Int32) (J : Nat → Nat → Int64) (R : Nat → Nat → Option Nat) (c e : Nat) (nL : Nat) (xs : Nat → Int32) (D : px_H) (v1 : Int32) (v2 : Int32) (v3 : Int32) : px_run (px_mk (kX11_why X)) 0 ([some (.ref 13), some (.int (v1)), some (.int (v2)), some (.int (v3))], [], (hp M J R c e nL xs D)) =
    px_bd (X 136 [.ref 13, .int (v1), .int (v2), .int (v3)] (hp M J R c e nL xs D))
    (fun v G1 => px_p (kX11_why X) 0 5 ([some (.ref 13), some (.int (v1)), some (.int (v2)), some (.int (v3))], px_psh v [], G1)) := (px_run_eq _ _ _).trans rfl
set_option maxRecDepth 40000 in
theorem eX11_why_0_5 (X : px_X) (M : Nat → Nat → Int32) (J : Nat → Nat → Int64) (R : Nat → Nat → Option Nat) (c e : Nat) (nL : Nat) (xs : Nat → Int32) (D : px_H) (v1 : Int32) (v2 : Int32) (v3 : Int32) (w0 : Int32) : px_p (kX11_why X) 0 5 ([some (.ref 13), some (.int (v1)), some (.int (v2)), some (.int (v3))], [.int (w0)], (hp M J R c e nL xs D)) =
    some (some (.int (w0)), (hp M J R c e nL xs D)) := rfl
set_option maxRecDepth 40000 in
theorem eX11_liftRefusal_38_0 (X : px_X) (M : Nat → Nat → Int32) (J : Nat → Nat → Int64) (R : Nat → Nat → Option Nat) (nL : Nat) (xs : Nat → Int32) (D : px_H) (v1 : Int32) (v2 : Int32) (v3 : Int32) : px_run (px_mk (kX11_liftRefusal X)) 0 ([some (.ref 13), some (.int (v1)), some (.int (v2)), some (.int (v3)), none, none, none], [], (hp M J R 38 43 nL xs D)) =
    px_bd (X 111 [.ref 28, .int (v1)] (hp M J R 38 43 nL xs D))
    (fun v G1 => px_p (kX11_liftRefusal X) 0 4 ([some (.ref 13), some (.int (v1)), some (.int (v2)), some (.int (v3)), none, none, none], px_psh v [], G1)) := (px_run_eq _ _ _).trans rfl
set_option maxRecDepth 40000 in
theorem eX11_liftRefusal_38_0_4 (X : px_X) (M : Nat → Nat → Int32) (J : Nat → Nat → Int64) (R : Nat → Nat → Option Nat) (nL : Nat) (xs : Nat → Int32) (D : px_H) (v1 : Int32) (v2 : Int32) (v3 : Int32) (g0 : Nat) : px_p (kX11_liftRefusal X) 0 4 ([some (.ref 13), some (.int (v1)), some (.int (v2)), some (.int (v3)), none, none, none], [.ref (g0)], (hp M J R 38 43 nL xs D)) =
    px_bd (X 115 [.ref 28, .int (v2)] (hp M J R 38 43 nL xs D))
    (fun v G1 => px_p (kX11_liftRefusal X) 0 11 ([some (.ref 13), some (.int (v1)), some (.int (v2)), some (.int (v3)), some (.ref (g0)), none, none], px_psh v [], G1)) := rfl
set_option maxRecDepth 40000 in
theorem eX11_liftRefusal_38_0_4_b (X : px_X) (M : Nat → Nat → Int32) (J : Nat → Nat → Int64) (R : Nat → Nat → Option Nat) (nL : Nat) (xs : Nat → Int32) (D : px_H) (v1 : Int32) (v2 : Int32) (v3 : Int32) : px_p (kX11_liftRefusal X) 0 4 ([some (.ref 13), some (.int (v1)), some (.int (v2)), some (.int (v3)), none, none, none], [.null], (hp M J R 38 43 nL xs D)) =
    px_run (px_mk (kX11_liftRefusal X)) 33 ([some (.ref 13), some (.int (v1)), some (.int (v2)), some (.int (v3)), some (.null), none, none], [], (hp M J R 38 43 nL xs D)) := rfl
set_option maxRecDepth 40000 in
theorem eX11_liftRefusal_38_0_11 (X : px_X) (M : Nat → Nat → Int32) (J : Nat → Nat → Int64) (R : Nat → Nat → Option Nat) (nL : Nat) (xs : Nat → Int32) (D : px_H) (v1 : Int32) (v2 : Int32) (v3 : Int32) (f4 : Nat) (w0 : Int32) : px_p (kX11_liftRefusal X) 0 11 ([some (.ref 13), some (.int (v1)), some (.int (v2)), some (.int (v3)), some (.ref (f4)), none, none], [.int (w0)], (hp M J R 38 43 nL xs D)) =
    cond (decide (w0 = 0))
    (px_run (px_mk (kX11_liftRefusal X)) 33 ([some (.ref 13), some (.int (v1)), some (.int (v2)), some (.int (v3)), some (.ref (f4)), none, none], [], (hp M J R 38 43 nL xs D)))
    (px_bd (X 137 [.int (v3)] (hp M J R 38 43 nL xs D))
    (fun v G1 => px_p (kX11_liftRefusal X) 0 14 ([some (.ref 13), some (.int (v1)), some (.int (v2)), some (.int (v3)), some (.ref (f4)), none, none], px_psh v [], G1))) := rfl
set_option maxRecDepth 40000 in
theorem eX11_liftRefusal_38_33 (X : px_X) (M : Nat → Nat → Int32) (J : Nat → Nat → Int64) (R : Nat → Nat → Option Nat) (nL : Nat) (xs : Nat → Int32) (D : px_H) (o0 : Option Value) (o1 : Option Value) (o2 : Option Value) (o3 : Option Value) (o4 : Option Value) (o5 : Option Value) (o6 : Option Value) : px_run (px_mk (kX11_liftRefusal X)) 33 ([o0, o1, o2, o3, o4, o5, o6], [], (hp M J R 38 43 nL xs D)) =
    some (some (.int ((-2))), (hp M J R 38 43 nL xs D)) := (px_run_eq _ _ _).trans rfl
set_option maxRecDepth 40000 in
theorem eX11_liftRefusal_38_0_14 (X : px_X) (M : Nat → Nat → Int32) (J : Nat → Nat → Int64) (R : Nat → Nat → Option Nat) (nL : Nat) (xs : Nat → Int32) (D : px_H) (v1 : Int32) (v2 : Int32) (v3 : Int32) (f4 : Nat) (w0 : Int32) : px_p (kX11_liftRefusal X) 0 14 ([some (.ref 13), some (.int (v1)), some (.int (v2)), some (.int (v3)), some (.ref (f4)), none, none], [.int (w0)], (hp M J R 38 43 nL xs D)) =
    cond (decide (¬ w0 = 0))
    (px_run (px_mk (kX11_liftRefusal X)) 36 ([some (.ref 13), some (.int (v1)), some (.int (v2)), some (.int (v3)), some (.ref (f4)), none, none], [], (hp M J R 38 43 nL xs D)))
    (px_run (px_mk (kX11_liftRefusal X)) 33 ([some (.ref 13), some (.int (v1)), some (.int (v2)), some (.int (v3)), some (.ref (f4)), none, none], [], (hp M J R 38 43 nL xs D))) := rfl
set_option maxRecDepth 40000 in
theorem eX11_liftRefusal_38_36 (X : px_X) (M : Nat → Nat → Int32) (J : Nat → Nat → Int64) (R : Nat → Nat → Option Nat) (nL : Nat) (xs : Nat → Int32) (D : px_H) (o1 : Option Value) (v2 : Int32) (v3 : Int32) (f4 : Nat) (o5 : Option Value) (o6 : Option Value) : px_run (px_mk (kX11_liftRefusal X)) 36 ([some (.ref 13), o1, some (.int (v2)), some (.int (v3)), some (.ref (f4)), o5, o6], [], (hp M J R 38 43 nL xs D)) =
    px_bd (X 119 [.ref 28, .ref (f4), .int (v2)] (hp M J R 38 43 nL xs D))
    (fun v G1 => px_p (kX11_liftRefusal X) 36 5 ([some (.ref 13), none, some (.int (v2)), some (.int (v3)), some (.ref (f4)), none, none], px_psh v [], G1)) := (px_run_eq _ _ _).trans rfl
set_option maxRecDepth 40000 in
theorem eX11_liftRefusal_38_36_5 (X : px_X) (M : Nat → Nat → Int32) (J : Nat → Nat → Int64) (R : Nat → Nat → Option Nat) (nL : Nat) (xs : Nat → Int32) (D : px_H) (v2 : Int32) (v3 : Int32) (f4 : Nat) (w0 : Int32) : px_p (kX11_liftRefusal X) 36 5 ([some (.ref 13), none, some (.int (v2)), some (.int (v3)), some (.ref (f4)), none, none], [.int (w0)], (hp M J R 38 43 nL xs D)) =
    cond (decide (w0 = 0))
    (px_run (px_mk (kX11_liftRefusal X)) 56 ([some (.ref 13), none, some (.int (v2)), some (.int (v3)), some (.ref (f4)), some (.int (w0)), none], [], (hp M J R 38 43 nL xs D)))
    (some (some (.int (w0)), (hp M J R 38 43 nL xs D))) := rfl
set_option maxRecDepth 40000 in
theorem eX11_liftRefusal_38_56 (X : px_X) (M : Nat → Nat → Int32) (J : Nat → Nat → Int64) (R : Nat → Nat → Option Nat) (nL : Nat) (xs : Nat → Int32) (D : px_H) (o1 : Option Value) (o2 : Option Value) (v3 : Int32) (f4 : Nat) (o5 : Option Value) (o6 : Option Value) : px_run (px_mk (kX11_liftRefusal X)) 56 ([some (.ref 13), o1, o2, some (.int (v3)), some (.ref (f4)), o5, o6], [], (hp M J R 38 43 nL xs D)) =
    px_bd (X 42 [.ref 38, .ref (f4), .int (v3)] (hp M J R 38 43 nL xs D))
    (fun v G1 => px_p (kX11_liftRefusal X) 56 6 ([some (.ref 13), none, none, some (.int (v3)), some (.ref (f4)), none, none], px_psh v [], G1)) := (px_run_eq _ _ _).trans rfl
set_option maxRecDepth 40000 in
theorem eX11_liftRefusal_38_56_6 (X : px_X) (M : Nat → Nat → Int32) (J : Nat → Nat → Int64) (R : Nat → Nat → Option Nat) (nL : Nat) (xs : Nat → Int32) (D : px_H) (v3 : Int32) (f4 : Nat) (w0 : Int32) : px_p (kX11_liftRefusal X) 56 6 ([some (.ref 13), none, none, some (.int (v3)), some (.ref (f4)), none, none], [.int (w0)], (hp M J R 38 43 nL xs D)) =
    cond (decide (0 ≤ w0))
    (px_run (px_mk (kX11_liftRefusal X)) 80 ([some (.ref 13), none, none, some (.int (v3)), some (.ref (f4)), none, some (.int (w0))], [], (hp M J R 38 43 nL xs D)))
    (px_run (px_mk (kX11_liftRefusal X)) 84 ([some (.ref 13), none, none, some (.int (v3)), some (.ref (f4)), none, some (.int (w0))], [.int (0)], (hp M J R 38 43 nL xs D))) := rfl
set_option maxRecDepth 40000 in
theorem eX11_liftRefusal_38_80 (X : px_X) (M : Nat → Nat → Int32) (J : Nat → Nat → Int64) (R : Nat → Nat → Option Nat) (nL : Nat) (xs : Nat → Int32) (D : px_H) (o0 : Option Value) (o1 : Option Value) (o2 : Option Value) (o3 : Option Value) (o4 : Option Value) (o5 : Option Value) (v6 : Int32) : px_run (px_mk (kX11_liftRefusal X)) 80 ([o0, o1, o2, o3, o4, o5, some (.int (v6))], [], (hp M J R 38 43 nL xs D)) =
    px_run (px_mk (kX11_liftRefusal X)) 84 ([none, none, none, none, none, none, some (.int (v6))], [.int ((4 + v6))], (hp M J R 38 43 nL xs D)) := (px_run_eq _ _ _).trans rfl
set_option maxRecDepth 40000 in
theorem eX11_liftRefusal_38_84 (X : px_X) (M : Nat → Nat → Int32) (J : Nat → Nat → Int64) (R : Nat → Nat → Option Nat) (nL : Nat) (xs : Nat → Int32) (D : px_H) (o0 : Option Value) (o1 : Option Value) (o2 : Option Value) (o3 : Option Value) (o4 : Option Value) (o5 : Option Value) (o6 : Option Value) (w0 : Int32) : px_run (px_mk (kX11_liftRefusal X)) 84 ([o0, o1, o2, o3, o4, o5, o6], [.int (w0)], (hp M J R 38 43 nL xs D)) =
    some (some (.int (w0)), (hp M J R 38 43 nL xs D)) := (px_run_eq _ _ _).trans rfl
set_option maxRecDepth 40000 in
theorem eX11_liftRefusal_43_0 (X : px_X) (M : Nat → Nat → Int32) (J : Nat → Nat → Int64) (R : Nat → Nat → Option Nat) (nL : Nat) (xs : Nat → Int32) (D : px_H) (v1 : Int32) (v2 : Int32) (v3 : Int32) : px_run (px_mk (kX11_liftRefusal X)) 0 ([some (.ref 13), some (.int (v1)), some (.int (v2)), some (.int (v3)), none, none, none], [], (hp M J R 43 38 nL xs D)) =
    px_bd (X 111 [.ref 28, .int (v1)] (hp M J R 43 38 nL xs D))
    (fun v G1 => px_p (kX11_liftRefusal X) 0 4 ([some (.ref 13), some (.int (v1)), some (.int (v2)), some (.int (v3)), none, none, none], px_psh v [], G1)) := (px_run_eq _ _ _).trans rfl
set_option maxRecDepth 40000 in
theorem eX11_liftRefusal_43_0_4 (X : px_X) (M : Nat → Nat → Int32) (J : Nat → Nat → Int64) (R : Nat → Nat → Option Nat) (nL : Nat) (xs : Nat → Int32) (D : px_H) (v1 : Int32) (v2 : Int32) (v3 : Int32) (g0 : Nat) : px_p (kX11_liftRefusal X) 0 4 ([some (.ref 13), some (.int (v1)), some (.int (v2)), some (.int (v3)), none, none, none], [.ref (g0)], (hp M J R 43 38 nL xs D)) =
    px_bd (X 115 [.ref 28, .int (v2)] (hp M J R 43 38 nL xs D))
    (fun v G1 => px_p (kX11_liftRefusal X) 0 11 ([some (.ref 13), some (.int (v1)), some (.int (v2)), some (.int (v3)), some (.ref (g0)), none, none], px_psh v [], G1)) := rfl
set_option maxRecDepth 40000 in
theorem eX11_liftRefusal_43_0_4_b (X : px_X) (M : Nat → Nat → Int32) (J : Nat → Nat → Int64) (R : Nat → Nat → Option Nat) (nL : Nat) (xs : Nat → Int32) (D : px_H) (v1 : Int32) (v2 : Int32) (v3 : Int32) : px_p (kX11_liftRefusal X) 0 4 ([some (.ref 13), some (.int (v1)), some (.int (v2)), some (.int (v3)), none, none, none], [.null], (hp M J R 43 38 nL xs D)) =
    px_run (px_mk (kX11_liftRefusal X)) 33 ([some (.ref 13), some (.int (v1)), some (.int (v2)), some (.int (v3)), some (.null), none, none], [], (hp M J R 43 38 nL xs D)) := rfl
set_option maxRecDepth 40000 in
theorem eX11_liftRefusal_43_0_11 (X : px_X) (M : Nat → Nat → Int32) (J : Nat → Nat → Int64) (R : Nat → Nat → Option Nat) (nL : Nat) (xs : Nat → Int32) (D : px_H) (v1 : Int32) (v2 : Int32) (v3 : Int32) (f4 : Nat) (w0 : Int32) : px_p (kX11_liftRefusal X) 0 11 ([some (.ref 13), some (.int (v1)), some (.int (v2)), some (.int (v3)), some (.ref (f4)), none, none], [.int (w0)], (hp M J R 43 38 nL xs D)) =
    cond (decide (w0 = 0))
    (px_run (px_mk (kX11_liftRefusal X)) 33 ([some (.ref 13), some (.int (v1)), some (.int (v2)), some (.int (v3)), some (.ref (f4)), none, none], [], (hp M J R 43 38 nL xs D)))
    (px_bd (X 137 [.int (v3)] (hp M J R 43 38 nL xs D))
    (fun v G1 => px_p (kX11_liftRefusal X) 0 14 ([some (.ref 13), some (.int (v1)), some (.int (v2)), some (.int (v3)), some (.ref (f4)), none, none], px_psh v [], G1))) := rfl
set_option maxRecDepth 40000 in
theorem eX11_liftRefusal_43_33 (X : px_X) (M : Nat → Nat → Int32) (J : Nat → Nat → Int64) (R : Nat → Nat → Option Nat) (nL : Nat) (xs : Nat → Int32) (D : px_H) (o0 : Option Value) (o1 : Option Value) (o2 : Option Value) (o3 : Option Value) (o4 : Option Value) (o5 : Option Value) (o6 : Option Value) : px_run (px_mk (kX11_liftRefusal X)) 33 ([o0, o1, o2, o3, o4, o5, o6], [], (hp M J R 43 38 nL xs D)) =
    some (some (.int ((-2))), (hp M J R 43 38 nL xs D)) := (px_run_eq _ _ _).trans rfl
set_option maxRecDepth 40000 in
theorem eX11_liftRefusal_43_0_14 (X : px_X) (M : Nat → Nat → Int32) (J : Nat → Nat → Int64) (R : Nat → Nat → Option Nat) (nL : Nat) (xs : Nat → Int32) (D : px_H) (v1 : Int32) (v2 : Int32) (v3 : Int32) (f4 : Nat) (w0 : Int32) : px_p (kX11_liftRefusal X) 0 14 ([some (.ref 13), some (.int (v1)), some (.int (v2)), some (.int (v3)), some (.ref (f4)), none, none], [.int (w0)], (hp M J R 43 38 nL xs D)) =
    cond (decide (¬ w0 = 0))
    (px_run (px_mk (kX11_liftRefusal X)) 36 ([some (.ref 13), some (.int (v1)), some (.int (v2)), some (.int (v3)), some (.ref (f4)), none, none], [], (hp M J R 43 38 nL xs D)))
    (px_run (px_mk (kX11_liftRefusal X)) 33 ([some (.ref 13), some (.int (v1)), some (.int (v2)), some (.int (v3)), some (.ref (f4)), none, none], [], (hp M J R 43 38 nL xs D))) := rfl
set_option maxRecDepth 40000 in
theorem eX11_liftRefusal_43_36 (X : px_X) (M : Nat → Nat → Int32) (J : Nat → Nat → Int64) (R : Nat → Nat → Option Nat) (nL : Nat) (xs : Nat → Int32) (D : px_H) (o1 : Option Value) (v2 : Int32) (v3 : Int32) (f4 : Nat) (o5 : Option Value) (o6 : Option Value) : px_run (px_mk (kX11_liftRefusal X)) 36 ([some (.ref 13), o1, some (.int (v2)), some (.int (v3)), some (.ref (f4)), o5, o6], [], (hp M J R 43 38 nL xs D)) =
    px_bd (X 119 [.ref 28, .ref (f4), .int (v2)] (hp M J R 43 38 nL xs D))
    (fun v G1 => px_p (kX11_liftRefusal X) 36 5 ([some (.ref 13), none, some (.int (v2)), some (.int (v3)), some (.ref (f4)), none, none], px_psh v [], G1)) := (px_run_eq _ _ _).trans rfl
set_option maxRecDepth 40000 in
theorem eX11_liftRefusal_43_36_5 (X : px_X) (M : Nat → Nat → Int32) (J : Nat → Nat → Int64) (R : Nat → Nat → Option Nat) (nL : Nat) (xs : Nat → Int32) (D : px_H) (v2 : Int32) (v3 : Int32) (f4 : Nat) (w0 : Int32) : px_p (kX11_liftRefusal X) 36 5 ([some (.ref 13), none, some (.int (v2)), some (.int (v3)), some (.ref (f4)), none, none], [.int (w0)], (hp M J R 43 38 nL xs D)) =
    cond (decide (w0 = 0))
    (px_run (px_mk (kX11_liftRefusal X)) 56 ([some (.ref 13), none, some (.int (v2)), some (.int (v3)), some (.ref (f4)), some (.int (w0)), none], [], (hp M J R 43 38 nL xs D)))
    (some (some (.int (w0)), (hp M J R 43 38 nL xs D))) := rfl
set_option maxRecDepth 40000 in
theorem eX11_liftRefusal_43_56 (X : px_X) (M : Nat → Nat → Int32) (J : Nat → Nat → Int64) (R : Nat → Nat → Option Nat) (nL : Nat) (xs : Nat → Int32) (D : px_H) (o1 : Option Value) (o2 : Option Value) (v3 : Int32) (f4 : Nat) (o5 : Option Value) (o6 : Option Value) : px_run (px_mk (kX11_liftRefusal X)) 56 ([some (.ref 13), o1, o2, some (.int (v3)), some (.ref (f4)), o5, o6], [], (hp M J R 43 38 nL xs D)) =
    px_bd (X 42 [.ref 43, .ref (f4), .int (v3)] (hp M J R 43 38 nL xs D))
    (fun v G1 => px_p (kX11_liftRefusal X) 56 6 ([some (.ref 13), none, none, some (.int (v3)), some (.ref (f4)), none, none], px_psh v [], G1)) := (px_run_eq _ _ _).trans rfl
set_option maxRecDepth 40000 in
theorem eX11_liftRefusal_43_56_6 (X : px_X) (M : Nat → Nat → Int32) (J : Nat → Nat → Int64) (R : Nat → Nat → Option Nat) (nL : Nat) (xs : Nat → Int32) (D : px_H) (v3 : Int32) (f4 : Nat) (w0 : Int32) : px_p (kX11_liftRefusal X) 56 6 ([some (.ref 13), none, none, some (.int (v3)), some (.ref (f4)), none, none], [.int (w0)], (hp M J R 43 38 nL xs D)) =
    cond (decide (0 ≤ w0))
    (px_run (px_mk (kX11_liftRefusal X)) 80 ([some (.ref 13), none, none, some (.int (v3)), some (.ref (f4)), none, some (.int (w0))], [], (hp M J R 43 38 nL xs D)))
    (px_run (px_mk (kX11_liftRefusal X)) 84 ([some (.ref 13), none, none, some (.int (v3)), some (.ref (f4)), none, some (.int (w0))], [.int (0)], (hp M J R 43 38 nL xs D))) := rfl
set_option maxRecDepth 40000 in
theorem eX11_liftRefusal_43_80 (X : px_X) (M : Nat → Nat → Int32) (J : Nat → Nat → Int64) (R : Nat → Nat → Option Nat) (nL : Nat) (xs : Nat → Int32) (D : px_H) (o0 : Option Value) (o1 : Option Value) (o2 : Option Value) (o3 : Option Value) (o4 : Option Value) (o5 : Option Value) (v6 : Int32) : px_run (px_mk (kX11_liftRefusal X)) 80 ([o0, o1, o2, o3, o4, o5, some (.int (v6))], [], (hp M J R 43 38 nL xs D)) =
    px_run (px_mk (kX11_liftRefusal X)) 84 ([none, none, none, none, none, none, some (.int (v6))], [.int ((4 + v6))], (hp M J R 43 38 nL xs D)) := (px_run_eq _ _ _).trans rfl
set_option maxRecDepth 40000 in
theorem eX11_liftRefusal_43_84 (X : px_X) (M : Nat → Nat → Int32) (J : Nat → Nat → Int64) (R : Nat → Nat → Option Nat) (nL : Nat) (xs : Nat → Int32) (D : px_H) (o0 : Option Value) (o1 : Option Value) (o2 : Option Value) (o3 : Option Value) (o4 : Option Value) (o5 : Option Value) (o6 : Option Value) (w0 : Int32) : px_run (px_mk (kX11_liftRefusal X)) 84 ([o0, o1, o2, o3, o4, o5, o6], [.int (w0)], (hp M J R 43 38 nL xs D)) =
    some (some (.int (w0)), (hp M J R 43 38 nL xs D)) := (px_run_eq _ _ _).trans rfl
set_option maxRecDepth 40000 in
theorem eX11_isDay_0 (X : px_X) (M : Nat → Nat → Int32) (J : Nat → Nat → Int64) (R : Nat → Nat → Option Nat) (c e : Nat) (nL : Nat) (xs : Nat → Int32) (D : px_H) (v0 : Int32) : px_run (px_mk (kX11_isDay X)) 0 ([some (.int (v0))], [], (hp M J R c e nL xs D)) =
    cond (decide (v0 < 0))
    (px_run (px_mk (kX11_isDay X)) 15 ([some (.int (v0))], [], (hp M J R c e nL xs D)))
    (cond (decide (1000 ≤ v0))
    (px_run (px_mk (kX11_isDay X)) 15 ([some (.int (v0))], [], (hp M J R c e nL xs D)))
    (px_run (px_mk (kX11_isDay X)) 16 ([some (.int (v0))], [.int (1)], (hp M J R c e nL xs D)))) := (px_run_eq _ _ _).trans rfl
set_option maxRecDepth 40000 in
theorem eX11_isDay_15 (X : px_X) (M : Nat → Nat → Int32) (J : Nat → Nat → Int64) (R : Nat → Nat → Option Nat) (c e : Nat) (nL : Nat) (xs : Nat → Int32) (D : px_H) (o0 : Option Value) : px_run (px_mk (kX11_isDay X)) 15 ([o0], [], (hp M J R c e nL xs D)) =
    px_run (px_mk (kX11_isDay X)) 16 ([none], [.int (0)], (hp M J R c e nL xs D)) := (px_run_eq _ _ _).trans rfl
set_option maxRecDepth 40000 in
theorem eX11_isDay_16 (X : px_X) (M : Nat → Nat → Int32) (J : Nat → Nat → Int64) (R : Nat → Nat → Option Nat) (c e : Nat) (nL : Nat) (xs : Nat → Int32) (D : px_H) (o0 : Option Value) (w0 : Int32) : px_run (px_mk (kX11_isDay X)) 16 ([o0], [.int (w0)], (hp M J R c e nL xs D)) =
    cond (decide (w0 = 0) || decide (w0 = 1)) (some (some (.int (w0)), (hp M J R c e nL xs D))) none := (px_run_eq _ _ _).trans rfl
set_option maxRecDepth 40000 in
theorem eX11_take_0 (X : px_X) (M : Nat → Nat → Int32) (J : Nat → Nat → Int64) (R : Nat → Nat → Option Nat) (c e : Nat) (nL : Nat) (xs : Nat → Int32) (D : px_H) (v1 : Int32) (v2 : Int32) : px_run (px_mk (kX11_take X)) 0 ([some (.ref 13), some (.int (v1)), some (.int (v2)), none], [], (hp M J R c e nL xs D)) =
    px_bd (X 111 [.ref 28, .int (v1)] (hp M J R c e nL xs D))
    (fun v G1 => px_p (kX11_take X) 0 4 ([some (.ref 13), some (.int (v1)), some (.int (v2)), none], px_psh v [], G1)) := (px_run_eq _ _ _).trans rfl
set_option maxRecDepth 40000 in
theorem eX11_take_0_4 (X : px_X) (M : Nat → Nat → Int32) (J : Nat → Nat → Int64) (R : Nat → Nat → Option Nat) (c e : Nat) (nL : Nat) (xs : Nat → Int32) (D : px_H) (v1 : Int32) (v2 : Int32) (g0 : Nat) : px_p (kX11_take X) 0 4 ([some (.ref 13), some (.int (v1)), some (.int (v2)), none], [.ref (g0)], (hp M J R c e nL xs D)) =
    px_bd (X 137 [.int (v2)] (hp M J R c e nL xs D))
    (fun v G1 => px_p (kX11_take X) 0 9 ([some (.ref 13), some (.int (v1)), some (.int (v2)), some (.ref (g0))], px_psh v [], G1)) := rfl
set_option maxRecDepth 40000 in
theorem eX11_take_0_4_b (X : px_X) (M : Nat → Nat → Int32) (J : Nat → Nat → Int64) (R : Nat → Nat → Option Nat) (c e : Nat) (nL : Nat) (xs : Nat → Int32) (D : px_H) (v1 : Int32) (v2 : Int32) : px_p (kX11_take X) 0 4 ([some (.ref 13), some (.int (v1)), some (.int (v2)), none], [.null], (hp M J R c e nL xs D)) =
    px_run (px_mk (kX11_take X)) 20 ([some (.ref 13), some (.int (v1)), some (.int (v2)), some (.null)], [], (hp M J R c e nL xs D)) := rfl
set_option maxRecDepth 40000 in
theorem eX11_take_0_9 (X : px_X) (M : Nat → Nat → Int32) (J : Nat → Nat → Int64) (R : Nat → Nat → Option Nat) (c e : Nat) (nL : Nat) (xs : Nat → Int32) (D : px_H) (v1 : Int32) (v2 : Int32) (f3 : Nat) (w0 : Int32) : px_p (kX11_take X) 0 9 ([some (.ref 13), some (.int (v1)), some (.int (v2)), some (.ref (f3))], [.int (w0)], (hp M J R c e nL xs D)) =
    cond (decide (¬ w0 = 0))
    (px_run (px_mk (kX11_take X)) 23 ([some (.ref 13), some (.int (v1)), some (.int (v2)), some (.ref (f3))], [], (hp M J R c e nL xs D)))
    (px_run (px_mk (kX11_take X)) 20 ([some (.ref 13), some (.int (v1)), some (.int (v2)), some (.ref (f3))], [], (hp M J R c e nL xs D))) := rfl
set_option maxRecDepth 40000 in
theorem eX11_take_20 (X : px_X) (M : Nat → Nat → Int32) (J : Nat → Nat → Int64) (R : Nat → Nat → Option Nat) (c e : Nat) (nL : Nat) (xs : Nat → Int32) (D : px_H) (o0 : Option Value) (o1 : Option Value) (o2 : Option Value) (o3 : Option Value) : px_run (px_mk (kX11_take X)) 20 ([o0, o1, o2, o3], [], (hp M J R c e nL xs D)) =
    some (some (.int ((-2))), (hp M J R c e nL xs D)) := (px_run_eq _ _ _).trans rfl
set_option maxRecDepth 40000 in
theorem eX11_take_23 (X : px_X) (M : Nat → Nat → Int32) (J : Nat → Nat → Int64) (R : Nat → Nat → Option Nat) (c e : Nat) (nL : Nat) (xs : Nat → Int32) (D : px_H) (o0 : Option Value) (o1 : Option Value) (v2 : Int32) (f3 : Nat) : px_run (px_mk (kX11_take X)) 23 ([o0, o1, some (.int (v2)), some (.ref (f3))], [], (hp M J R c e nL xs D)) =
    px_p (kX11_take X) 23 1 ([none, none, some (.int (v2)), some (.ref (f3))], [.ref (f3)], (hp M J R c e nL xs D)) := (px_run_eq _ _ _).trans rfl
set_option maxRecDepth 40000 in
theorem eX11_take_23_1 (X : px_X) (G : px_H) (v2 : Int32) (f3 : Nat) (g0 : Nat) : px_p (kX11_take X) 23 1 ([none, none, some (.int (v2)), some (.ref (f3))], [.ref (g0)], G) =
    px_vb (px_gf G (g0) 2 7) (fun v => px_p (kX11_take X) 23 2 ([none, none, some (.int (v2)), some (.ref (f3))], v :: [], G)) := px_sgetf
set_option maxRecDepth 40000 in
theorem eX11_take_23_2 (X : px_X) (M : Nat → Nat → Int32) (J : Nat → Nat → Int64) (R : Nat → Nat → Option Nat) (c e : Nat) (nL : Nat) (xs : Nat → Int32) (D : px_H) (v2 : Int32) (f3 : Nat) (w0 : Int32) : px_p (kX11_take X) 23 2 ([none, none, some (.int (v2)), some (.ref (f3))], [.int (w0)], (hp M J R c e nL xs D)) =
    cond (decide (w0 = (-1)))
    (px_run (px_mk (kX11_take X)) 39 ([none, none, some (.int (v2)), some (.ref (f3))], [], (hp M J R c e nL xs D)))
    (px_p (kX11_take X) 23 6 ([none, none, some (.int (v2)), some (.ref (f3))], [.ref (f3), .int (v2)], (hp M J R c e nL xs D))) := rfl
set_option maxRecDepth 40000 in
theorem eX11_take_39 (X : px_X) (M : Nat → Nat → Int32) (J : Nat → Nat → Int64) (R : Nat → Nat → Option Nat) (c e : Nat) (nL : Nat) (xs : Nat → Int32) (D : px_H) (o0 : Option Value) (o1 : Option Value) (o2 : Option Value) (o3 : Option Value) : px_run (px_mk (kX11_take X)) 39 ([o0, o1, o2, o3], [], (hp M J R c e nL xs D)) =
    some (some (.int ((-3))), (hp M J R c e nL xs D)) := (px_run_eq _ _ _).trans rfl
set_option maxRecDepth 40000 in
theorem eX11_take_23_6 (X : px_X) (G : px_H) (v2 : Int32) (f3 : Nat) (w0 : Int32) (g1 : Nat) : px_p (kX11_take X) 23 6 ([none, none, some (.int (v2)), some (.ref (f3))], [.ref (g1), .int (w0)], G) =
    cond (px_isc G (g1) 2)
    (px_bd (X 27 [.ref (g1)] G)
    (fun v G1 => px_p (kX11_take X) 23 7 ([none, none, some (.int (v2)), some (.ref (f3))], px_psh v [.int (w0)], G1))) none := px_scallV rfl rfl rfl rfl
set_option maxRecDepth 40000 in
theorem eX11_take_23_7 (X : px_X) (M : Nat → Nat → Int32) (J : Nat → Nat → Int64) (R : Nat → Nat → Option Nat) (c e : Nat) (nL : Nat) (xs : Nat → Int32) (D : px_H) (v2 : Int32) (f3 : Nat) (w0 : Int32) (w1 : Int32) : px_p (kX11_take X) 23 7 ([none, none, some (.int (v2)), some (.ref (f3))], [.int (w1), .int (w0)], (hp M J R c e nL xs D)) =
    cond (decide (w1 ≤ w0))
    (px_run (px_mk (kX11_take X)) 42 ([none, none, some (.int (v2)), some (.ref (f3))], [], (hp M J R c e nL xs D)))
    (px_run (px_mk (kX11_take X)) 39 ([none, none, some (.int (v2)), some (.ref (f3))], [], (hp M J R c e nL xs D))) := rfl
set_option maxRecDepth 40000 in
theorem eX11_take_42 (X : px_X) (M : Nat → Nat → Int32) (J : Nat → Nat → Int64) (R : Nat → Nat → Option Nat) (c e : Nat) (nL : Nat) (xs : Nat → Int32) (D : px_H) (o0 : Option Value) (o1 : Option Value) (o2 : Option Value) (f3 : Nat) : px_run (px_mk (kX11_take X)) 42 ([o0, o1, o2, some (.ref (f3))], [], (hp M J R c e nL xs D)) =
    px_p (kX11_take X) 42 1 ([none, none, none, some (.ref (f3))], [.ref (f3)], (hp M J R c e nL xs D)) := (px_run_eq _ _ _).trans rfl
set_option maxRecDepth 40000 in
theorem eX11_take_42_1 (X : px_X) (G : px_H) (f3 : Nat) (g0 : Nat) : px_p (kX11_take X) 42 1 ([none, none, none, some (.ref (f3))], [.ref (g0)], G) =
    cond (px_isc G (g0) 2)
    (px_bd (X 29 [.ref (g0)] G)
    (fun v G1 => px_p (kX11_take X) 42 2 ([none, none, none, some (.ref (f3))], px_psh v [], G1))) none := px_scallV rfl rfl rfl rfl
set_option maxRecDepth 40000 in
theorem eX11_take_42_2 (X : px_X) (M : Nat → Nat → Int32) (J : Nat → Nat → Int64) (R : Nat → Nat → Option Nat) (c e : Nat) (nL : Nat) (xs : Nat → Int32) (D : px_H) (f3 : Nat) : px_p (kX11_take X) 42 2 ([none, none, none, some (.ref (f3))], [], (hp M J R c e nL xs D)) =
    some (some (.int (1)), (hp M J R c e nL xs D)) := rfl
set_option maxRecDepth 40000 in
theorem eX11_diver_0 (X : px_X) (M : Nat → Nat → Int32) (J : Nat → Nat → Int64) (R : Nat → Nat → Option Nat) (c e : Nat) (nL : Nat) (xs : Nat → Int32) (D : px_H)  : px_run (px_mk (kX11_diver X)) 0 ([some (.ref 13)], [], (hp M J R c e nL xs D)) =
    px_bd (X 5 [.ref 32] (hp M J R c e nL xs D))
    (fun v G1 => px_p (kX11_diver X) 0 3 ([some (.ref 13)], px_psh v [], G1)) := (px_run_eq _ _ _).trans rfl
set_option maxRecDepth 40000 in
theorem eX11_diver_0_3 (X : px_X) (M : Nat → Nat → Int32) (J : Nat → Nat → Int64) (R : Nat → Nat → Option Nat) (c e : Nat) (nL : Nat) (xs : Nat → Int32) (D : px_H) (w0 : Int32) : px_p (kX11_diver X) 0 3 ([some (.ref 13)], [.int (w0)], (hp M J R c e nL xs D)) =
    some (some (.int (w0)), (hp M J R c e nL xs D)) := rfl
set_option maxRecDepth 40000 in
theorem eX11_row_0 (X : px_X) (M : Nat → Nat → Int32) (J : Nat → Nat → Int64) (R : Nat → Nat → Option Nat) (c e : Nat) (nL : Nat) (xs : Nat → Int32) (D : px_H) (v1 : Int32) (v2 : Int32) (v3 : Int32) : px_run (px_mk (kX11_row X)) 0 ([some (.ref 13), some (.int (v1)), some (.int (v2)), some (.int (v3))], [], (hp M J R c e nL xs D)) =
    px_bd (X 7 [.ref 32, .int (v1), .int (v2), .int (v3)] (hp M J R c e nL xs D))
    (fun v G1 => px_p (kX11_row X) 0 6 ([some (.ref 13), some (.int (v1)), some (.int (v2)), some (.int (v3))], px_psh v [], G1)) := (px_run_eq _ _ _).trans rfl
set_option maxRecDepth 40000 in
theorem eX11_row_0_6 (X : px_X) (M : Nat → Nat → Int32) (J : Nat → Nat → Int64) (R : Nat → Nat → Option Nat) (c e : Nat) (nL : Nat) (xs : Nat → Int32) (D : px_H) (v1 : Int32) (v2 : Int32) (v3 : Int32) (w0 : Int32) : px_p (kX11_row X) 0 6 ([some (.ref 13), some (.int (v1)), some (.int (v2)), some (.int (v3))], [.int (w0)], (hp M J R c e nL xs D)) =
    some (some (.int (w0)), (hp M J R c e nL xs D)) := rfl
set_option maxRecDepth 40000 in
theorem eX11_dive_0 (X : px_X) (M : Nat → Nat → Int32) (J : Nat → Nat → Int64) (R : Nat → Nat → Option Nat) (c e : Nat) (nL : Nat) (xs : Nat → Int32) (D : px_H) (v1 : Int32) (v2 : Int32) (v3 : Int32) (v4 : Int32) (v5 : Int32) : px_run (px_mk (kX11_dive X)) 0 ([some (.ref 13), some (.int (v1)), some (.int (v2)), some (.int (v3)), some (.int (v4)), some (.int (v5)), none], [], (hp M J R c e nL xs D)) =
    px_bd (X 11 [.ref 32, .int (v1), .int (v2), .int (v3), .int (v4), .int (v5)] (hp M J R c e nL xs D))
    (fun v G1 => px_p (kX11_dive X) 0 8 ([some (.ref 13), some (.int (v1)), some (.int (v2)), some (.int (v3)), some (.int (v4)), some (.int (v5)), none], px_psh v [], G1)) := (px_run_eq _ _ _).trans rfl
set_option maxRecDepth 40000 in
theorem eX11_dive_0_8 (X : px_X) (M : Nat → Nat → Int32) (J : Nat → Nat → Int64) (R : Nat → Nat → Option Nat) (c e : Nat) (nL : Nat) (xs : Nat → Int32) (D : px_H) (v1 : Int32) (v2 : Int32) (v3 : Int32) (v4 : Int32) (v5 : Int32) (w0 : Int32) : px_p (kX11_dive X) 0 8 ([some (.ref 13), some (.int (v1)), some (.int (v2)), some (.int (v3)), some (.int (v4)), some (.int (v5)), none], [.int (w0)], (hp M J R c e nL xs D)) =
    cond (decide (¬ w0 = 0))
    (px_run (px_mk (kX11_dive X)) 20 ([some (.ref 13), some (.int (v1)), some (.int (v2)), some (.int (v3)), some (.int (v4)), some (.int (v5)), none], [], (hp M J R c e nL xs D)))
    (some (some (.int ((-2))), (hp M J R c e nL xs D))) := rfl
set_option maxRecDepth 40000 in
theorem eX11_dive_20 (X : px_X) (M : Nat → Nat → Int32) (J : Nat → Nat → Int64) (R : Nat → Nat → Option Nat) (c e : Nat) (nL : Nat) (xs : Nat → Int32) (D : px_H) (v1 : Int32) (v2 : Int32) (v3 : Int32) (v4 : Int32) (v5 : Int32) (o6 : Option Value) : px_run (px_mk (kX11_dive X)) 20 ([some (.ref 13), some (.int (v1)), some (.int (v2)), some (.int (v3)), some (.int (v4)), some (.int (v5)), o6], [], (hp M J R c e nL xs D)) =
    px_bd (X 12 [.ref 32, .int (v1), .int (v2), .int (v3), .int (v4), .int (v5)] (hp M J R c e nL xs D))
    (fun v G1 => px_p (kX11_dive X) 20 8 ([some (.ref 13), some (.int (v1)), some (.int (v2)), some (.int (v3)), some (.int (v4)), some (.int (v5)), none], px_psh v [], G1)) := (px_run_eq _ _ _).trans rfl
set_option maxRecDepth 40000 in
theorem eX11_dive_20_8 (X : px_X) (M : Nat → Nat → Int32) (J : Nat → Nat → Int64) (R : Nat → Nat → Option Nat) (c e : Nat) (nL : Nat) (xs : Nat → Int32) (D : px_H) (v1 : Int32) (v2 : Int32) (v3 : Int32) (v4 : Int32) (v5 : Int32) (w0 : Int32) : px_p (kX11_dive X) 20 8 ([some (.ref 13), some (.int (v1)), some (.int (v2)), some (.int (v3)), some (.int (v4)), some (.int (v5)), none], [.int (w0)], (hp M J R c e nL xs D)) =
    cond (decide (w0 = 0))
    (px_run (px_mk (kX11_dive X)) 47 ([some (.ref 13), some (.int (v1)), some (.int (v2)), some (.int (v3)), some (.int (v4)), some (.int (v5)), some (.int (w0))], [], (hp M J R c e nL xs D)))
    (some (some (.int (((-20) - w0))), (hp M J R c e nL xs D))) := rfl
set_option maxRecDepth 40000 in
theorem eX11_dive_47 (X : px_X) (M : Nat → Nat → Int32) (J : Nat → Nat → Int64) (R : Nat → Nat → Option Nat) (c e : Nat) (nL : Nat) (xs : Nat → Int32) (D : px_H) (v1 : Int32) (v2 : Int32) (v3 : Int32) (v4 : Int32) (v5 : Int32) (o6 : Option Value) : px_run (px_mk (kX11_dive X)) 47 ([some (.ref 13), some (.int (v1)), some (.int (v2)), some (.int (v3)), some (.int (v4)), some (.int (v5)), o6], [], (hp M J R c e nL xs D)) =
    px_bd (X 17 [.ref 32, .int (v1), .int (v2), .int (v3), .int (v4), .int (v5)] (hp M J R c e nL xs D))
    (fun v G1 => px_p (kX11_dive X) 47 8 ([some (.ref 13), some (.int (v1)), some (.int (v2)), some (.int (v3)), some (.int (v4)), some (.int (v5)), none], px_psh v [], G1)) := (px_run_eq _ _ _).trans rfl
set_option maxRecDepth 40000 in
theorem eX11_dive_47_8 (X : px_X) (M : Nat → Nat → Int32) (J : Nat → Nat → Int64) (R : Nat → Nat → Option Nat) (c e : Nat) (nL : Nat) (xs : Nat → Int32) (D : px_H) (v1 : Int32) (v2 : Int32) (v3 : Int32) (v4 : Int32) (v5 : Int32) (w0 : Int32) : px_p (kX11_dive X) 47 8 ([some (.ref 13), some (.int (v1)), some (.int (v2)), some (.int (v3)), some (.int (v4)), some (.int (v5)), none], [.int (w0)], (hp M J R c e nL xs D)) =
    some (some (.int (w0)), (hp M J R c e nL xs D)) := rfl
set_option maxRecDepth 40000 in
theorem eX11_cancel_0 (X : px_X) (M : Nat → Nat → Int32) (J : Nat → Nat → Int64) (R : Nat → Nat → Option Nat) (c e : Nat) (nL : Nat) (xs : Nat → Int32) (D : px_H)  : px_run (px_mk (kX11_cancel X)) 0 ([some (.ref 13)], [], (hp M J R c e nL xs D)) =
    px_bd (X 18 [.ref 32] (hp M J R c e nL xs D))
    (fun v G1 => px_p (kX11_cancel X) 0 3 ([some (.ref 13)], px_psh v [], G1)) := (px_run_eq _ _ _).trans rfl
set_option maxRecDepth 40000 in
theorem eX11_cancel_0_3 (X : px_X) (M : Nat → Nat → Int32) (J : Nat → Nat → Int64) (R : Nat → Nat → Option Nat) (c e : Nat) (nL : Nat) (xs : Nat → Int32) (D : px_H) (w0 : Int32) : px_p (kX11_cancel X) 0 3 ([some (.ref 13)], [.int (w0)], (hp M J R c e nL xs D)) =
    some (some (.int (w0)), (hp M J R c e nL xs D)) := rfl
set_option maxRecDepth 40000 in
theorem eX11_under_0 (X : px_X) (M : Nat → Nat → Int32) (J : Nat → Nat → Int64) (R : Nat → Nat → Option Nat) (c e : Nat) (nL : Nat) (xs : Nat → Int32) (D : px_H) (v1 : Int32) (v2 : Int32) : px_run (px_mk (kX11_under X)) 0 ([some (.ref 13), some (.int (v1)), some (.int (v2))], [], (hp M J R c e nL xs D)) =
    px_bd (X 6 [.ref 32, .int (v1)] (hp M J R c e nL xs D))
    (fun v G1 => px_p (kX11_under X) 0 4 ([some (.ref 13), some (.int (v1)), some (.int (v2))], px_psh v [], G1)) := (px_run_eq _ _ _).trans rfl
set_option maxRecDepth 40000 in
theorem eX11_under_0_4 (X : px_X) (M : Nat → Nat → Int32) (J : Nat → Nat → Int64) (R : Nat → Nat → Option Nat) (c e : Nat) (nL : Nat) (xs : Nat → Int32) (D : px_H) (v1 : Int32) (v2 : Int32) (w0 : Int32) : px_p (kX11_under X) 0 4 ([some (.ref 13), some (.int (v1)), some (.int (v2))], [.int (w0)], (hp M J R c e nL xs D)) =
    cond (decide (w0 = 0))
    (px_run (px_mk (kX11_under X)) 30 ([some (.ref 13), some (.int (v1)), some (.int (v2))], [], (hp M J R c e nL xs D)))
    (px_bd (X 137 [.int (v2)] (hp M J R c e nL xs D))
    (fun v G1 => px_p (kX11_under X) 0 7 ([some (.ref 13), some (.int (v1)), some (.int (v2))], px_psh v [], G1))) := rfl
set_option maxRecDepth 40000 in
theorem eX11_under_30 (X : px_X) (M : Nat → Nat → Int32) (J : Nat → Nat → Int64) (R : Nat → Nat → Option Nat) (c e : Nat) (nL : Nat) (xs : Nat → Int32) (D : px_H) (o0 : Option Value) (o1 : Option Value) (o2 : Option Value) : px_run (px_mk (kX11_under X)) 30 ([o0, o1, o2], [], (hp M J R c e nL xs D)) =
    px_run (px_mk (kX11_under X)) 32 ([none, none, none], [.int ((-2))], (hp M J R c e nL xs D)) := (px_run_eq _ _ _).trans rfl
set_option maxRecDepth 40000 in
theorem eX11_under_0_7 (X : px_X) (M : Nat → Nat → Int32) (J : Nat → Nat → Int64) (R : Nat → Nat → Option Nat) (c e : Nat) (nL : Nat) (xs : Nat → Int32) (D : px_H) (v1 : Int32) (v2 : Int32) (w0 : Int32) : px_p (kX11_under X) 0 7 ([some (.ref 13), some (.int (v1)), some (.int (v2))], [.int (w0)], (hp M J R c e nL xs D)) =
    cond (decide (w0 = 0))
    (px_run (px_mk (kX11_under X)) 30 ([some (.ref 13), some (.int (v1)), some (.int (v2))], [], (hp M J R c e nL xs D)))
    (px_bd (X 16 [.ref 32, .int (v1), .int (v2)] (hp M J R c e nL xs D))
    (fun v G1 => px_p (kX11_under X) 0 13 ([some (.ref 13), some (.int (v1)), some (.int (v2))], px_psh v [], G1))) := rfl
set_option maxRecDepth 40000 in
theorem eX11_under_32 (X : px_X) (M : Nat → Nat → Int32) (J : Nat → Nat → Int64) (R : Nat → Nat → Option Nat) (c e : Nat) (nL : Nat) (xs : Nat → Int32) (D : px_H) (o0 : Option Value) (o1 : Option Value) (o2 : Option Value) (w0 : Int32) : px_run (px_mk (kX11_under X)) 32 ([o0, o1, o2], [.int (w0)], (hp M J R c e nL xs D)) =
    some (some (.int (w0)), (hp M J R c e nL xs D)) := (px_run_eq _ _ _).trans rfl
set_option maxRecDepth 40000 in
theorem eX11_under_0_13 (X : px_X) (M : Nat → Nat → Int32) (J : Nat → Nat → Int64) (R : Nat → Nat → Option Nat) (c e : Nat) (nL : Nat) (xs : Nat → Int32) (D : px_H) (v1 : Int32) (v2 : Int32) (w0 : Int32) : px_p (kX11_under X) 0 13 ([some (.ref 13), some (.int (v1)), some (.int (v2))], [.int (w0)], (hp M J R c e nL xs D)) =
    px_run (px_mk (kX11_under X)) 32 ([some (.ref 13), some (.int (v1)), some (.int (v2))], [.int (w0)], (hp M J R c e nL xs D)) := rfl
set_option maxRecDepth 40000 in
theorem eX11_soonest_0 (X : px_X) (M : Nat → Nat → Int32) (J : Nat → Nat → Int64) (R : Nat → Nat → Option Nat) (c e : Nat) (nL : Nat) (xs : Nat → Int32) (D : px_H) (v1 : Int32) (v2 : Int32) (v3 : Int32) (v4 : Int32) (v5 : Int32) : px_run (px_mk (kX11_soonest X)) 0 ([some (.ref 13), some (.int (v1)), some (.int (v2)), some (.int (v3)), some (.int (v4)), some (.int (v5))], [], (hp M J R c e nL xs D)) =
    px_bd (X 11 [.ref 32, .int (v1), .int (v2), .int (v3), .int (v4), .int (v5)] (hp M J R c e nL xs D))
    (fun v G1 => px_p (kX11_soonest X) 0 8 ([some (.ref 13), some (.int (v1)), some (.int (v2)), some (.int (v3)), some (.int (v4)), some (.int (v5))], px_psh v [], G1)) := (px_run_eq _ _ _).trans rfl
set_option maxRecDepth 40000 in
theorem eX11_soonest_0_8 (X : px_X) (M : Nat → Nat → Int32) (J : Nat → Nat → Int64) (R : Nat → Nat → Option Nat) (c e : Nat) (nL : Nat) (xs : Nat → Int32) (D : px_H) (v1 : Int32) (v2 : Int32) (v3 : Int32) (v4 : Int32) (v5 : Int32) (w0 : Int32) : px_p (kX11_soonest X) 0 8 ([some (.ref 13), some (.int (v1)), some (.int (v2)), some (.int (v3)), some (.int (v4)), some (.int (v5))], [.int (w0)], (hp M J R c e nL xs D)) =
    cond (decide (¬ w0 = 0))
    (px_run (px_mk (kX11_soonest X)) 20 ([some (.ref 13), some (.int (v1)), some (.int (v2)), some (.int (v3)), some (.int (v4)), some (.int (v5))], [], (hp M J R c e nL xs D)))
    (some (some (.int ((-2))), (hp M J R c e nL xs D))) := rfl
set_option maxRecDepth 40000 in
theorem eX11_soonest_20 (X : px_X) (M : Nat → Nat → Int32) (J : Nat → Nat → Int64) (R : Nat → Nat → Option Nat) (c e : Nat) (nL : Nat) (xs : Nat → Int32) (D : px_H) (v1 : Int32) (v2 : Int32) (v3 : Int32) (v4 : Int32) (v5 : Int32) : px_run (px_mk (kX11_soonest X)) 20 ([some (.ref 13), some (.int (v1)), some (.int (v2)), some (.int (v3)), some (.int (v4)), some (.int (v5))], [], (hp M J R c e nL xs D)) =
    px_bd (X 19 [.ref 32, .int (v1), .int (v2), .int (v3), .int (v4), .int (v5)] (hp M J R c e nL xs D))
    (fun v G1 => px_p (kX11_soonest X) 20 8 ([some (.ref 13), some (.int (v1)), some (.int (v2)), some (.int (v3)), some (.int (v4)), some (.int (v5))], px_psh v [], G1)) := (px_run_eq _ _ _).trans rfl
set_option maxRecDepth 40000 in
theorem eX11_soonest_20_8 (X : px_X) (M : Nat → Nat → Int32) (J : Nat → Nat → Int64) (R : Nat → Nat → Option Nat) (c e : Nat) (nL : Nat) (xs : Nat → Int32) (D : px_H) (v1 : Int32) (v2 : Int32) (v3 : Int32) (v4 : Int32) (v5 : Int32) (w0 : Int32) : px_p (kX11_soonest X) 20 8 ([some (.ref 13), some (.int (v1)), some (.int (v2)), some (.int (v3)), some (.int (v4)), some (.int (v5))], [.int (w0)], (hp M J R c e nL xs D)) =
    some (some (.int (w0)), (hp M J R c e nL xs D)) := rfl
set_option maxRecDepth 40000 in
theorem eX11_feed_0 (X : px_X) (M : Nat → Nat → Int32) (J : Nat → Nat → Int64) (R : Nat → Nat → Option Nat) (c e : Nat) (nL : Nat) (xs : Nat → Int32) (D : px_H) (v1 : Int32) (v2 : Int64) : px_run (px_mk (kX11_feed X)) 0 ([some (.ref 13), some (.int (v1)), some (.long (v2)), none], [], (hp M J R c e nL xs D)) =
    px_bd (X 49 [.ref 37, .int (v1), .long (v2)] (hp M J R c e nL xs D))
    (fun v G1 => px_p (kX11_feed X) 0 5 ([some (.ref 13), some (.int (v1)), some (.long (v2)), none], px_psh v [], G1)) := (px_run_eq _ _ _).trans rfl
set_option maxRecDepth 40000 in
theorem eX11_feed_0_5 (X : px_X) (M : Nat → Nat → Int32) (J : Nat → Nat → Int64) (R : Nat → Nat → Option Nat) (c e : Nat) (nL : Nat) (xs : Nat → Int32) (D : px_H) (v1 : Int32) (v2 : Int64) (w0 : Int32) : px_p (kX11_feed X) 0 5 ([some (.ref 13), some (.int (v1)), some (.long (v2)), none], [.int (w0)], (hp M J R c e nL xs D)) =
    some (some (.int (w0)), (hp M J R c e nL xs D)) := rfl
set_option maxRecDepth 40000 in
theorem eX11_rule_0 (X : px_X) (M : Nat → Nat → Int32) (J : Nat → Nat → Int64) (R : Nat → Nat → Option Nat) (c e : Nat) (nL : Nat) (xs : Nat → Int32) (D : px_H)  : px_run (px_mk (kX11_rule X)) 0 ([some (.ref 13)], [], (hp M J R c e nL xs D)) =
    px_bd (X 50 [.ref 37] (hp M J R c e nL xs D))
    (fun v G1 => px_p (kX11_rule X) 0 3 ([some (.ref 13)], px_psh v [], G1)) := (px_run_eq _ _ _).trans rfl
set_option maxRecDepth 40000 in
theorem eX11_rule_0_3 (X : px_X) (M : Nat → Nat → Int32) (J : Nat → Nat → Int64) (R : Nat → Nat → Option Nat) (c e : Nat) (nL : Nat) (xs : Nat → Int32) (D : px_H) (w0 : Int32) : px_p (kX11_rule X) 0 3 ([some (.ref 13)], [.int (w0)], (hp M J R c e nL xs D)) =
    some (some (.int (w0)), (hp M J R c e nL xs D)) := rfl
set_option maxRecDepth 40000 in
theorem eX11_worth_38_0 (X : px_X) (M : Nat → Nat → Int32) (J : Nat → Nat → Int64) (R : Nat → Nat → Option Nat) (nL : Nat) (xs : Nat → Int32) (D : px_H) (v1 : Int32) (v2 : Int32) (v3 : Int32) : px_run (px_mk (kX11_worth X)) 0 ([some (.ref 13), some (.int (v1)), some (.int (v2)), some (.int (v3)), none], [], (hp M J R 38 43 nL xs D)) =
    px_bd (X 111 [.ref 28, .int (v1)] (hp M J R 38 43 nL xs D))
    (fun v G1 => px_p (kX11_worth X) 0 4 ([some (.ref 13), some (.int (v1)), some (.int (v2)), some (.int (v3)), none], px_psh v [], G1)) := (px_run_eq _ _ _).trans rfl
set_option maxRecDepth 40000 in
theorem eX11_worth_38_0_4 (X : px_X) (M : Nat → Nat → Int32) (J : Nat → Nat → Int64) (R : Nat → Nat → Option Nat) (nL : Nat) (xs : Nat → Int32) (D : px_H) (v1 : Int32) (v2 : Int32) (v3 : Int32) (g0 : Nat) : px_p (kX11_worth X) 0 4 ([some (.ref 13), some (.int (v1)), some (.int (v2)), some (.int (v3)), none], [.ref (g0)], (hp M J R 38 43 nL xs D)) =
    px_bd (X 137 [.int (v2)] (hp M J R 38 43 nL xs D))
    (fun v G1 => px_p (kX11_worth X) 0 9 ([some (.ref 13), some (.int (v1)), some (.int (v2)), some (.int (v3)), some (.ref (g0))], px_psh v [], G1)) := rfl
set_option maxRecDepth 40000 in
theorem eX11_worth_38_0_4_b (X : px_X) (M : Nat → Nat → Int32) (J : Nat → Nat → Int64) (R : Nat → Nat → Option Nat) (nL : Nat) (xs : Nat → Int32) (D : px_H) (v1 : Int32) (v2 : Int32) (v3 : Int32) : px_p (kX11_worth X) 0 4 ([some (.ref 13), some (.int (v1)), some (.int (v2)), some (.int (v3)), none], [.null], (hp M J R 38 43 nL xs D)) =
    px_run (px_mk (kX11_worth X)) 40 ([some (.ref 13), some (.int (v1)), some (.int (v2)), some (.int (v3)), some (.null)], [], (hp M J R 38 43 nL xs D)) := rfl
set_option maxRecDepth 40000 in
theorem eX11_worth_38_0_9 (X : px_X) (M : Nat → Nat → Int32) (J : Nat → Nat → Int64) (R : Nat → Nat → Option Nat) (nL : Nat) (xs : Nat → Int32) (D : px_H) (v1 : Int32) (v2 : Int32) (v3 : Int32) (f4 : Nat) (w0 : Int32) : px_p (kX11_worth X) 0 9 ([some (.ref 13), some (.int (v1)), some (.int (v2)), some (.int (v3)), some (.ref (f4))], [.int (w0)], (hp M J R 38 43 nL xs D)) =
    cond (decide (w0 = 0))
    (px_run (px_mk (kX11_worth X)) 40 ([some (.ref 13), some (.int (v1)), some (.int (v2)), some (.int (v3)), some (.ref (f4))], [], (hp M J R 38 43 nL xs D)))
    (cond (decide (v3 < 0))
    (px_run (px_mk (kX11_worth X)) 40 ([some (.ref 13), some (.int (v1)), some (.int (v2)), some (.int (v3)), some (.ref (f4))], [], (hp M J R 38 43 nL xs D)))
    (cond (decide (v3 < M 38 0))
    (px_run (px_mk (kX11_worth X)) 44 ([some (.ref 13), some (.int (v1)), some (.int (v2)), some (.int (v3)), some (.ref (f4))], [], (hp M J R 38 43 nL xs D)))
    (px_run (px_mk (kX11_worth X)) 40 ([some (.ref 13), some (.int (v1)), some (.int (v2)), some (.int (v3)), some (.ref (f4))], [], (hp M J R 38 43 nL xs D))))) := rfl
set_option maxRecDepth 40000 in
theorem eX11_worth_38_40 (X : px_X) (M : Nat → Nat → Int32) (J : Nat → Nat → Int64) (R : Nat → Nat → Option Nat) (nL : Nat) (xs : Nat → Int32) (D : px_H) (o0 : Option Value) (o1 : Option Value) (o2 : Option Value) (o3 : Option Value) (o4 : Option Value) : px_run (px_mk (kX11_worth X)) 40 ([o0, o1, o2, o3, o4], [], (hp M J R 38 43 nL xs D)) =
    some (some (.long ((-4611686018427387904))), (hp M J R 38 43 nL xs D)) := (px_run_eq _ _ _).trans rfl
set_option maxRecDepth 40000 in
theorem eX11_worth_38_44 (X : px_X) (M : Nat → Nat → Int32) (J : Nat → Nat → Int64) (R : Nat → Nat → Option Nat) (nL : Nat) (xs : Nat → Int32) (D : px_H) (o1 : Option Value) (v2 : Int32) (v3 : Int32) (f4 : Nat) : px_run (px_mk (kX11_worth X)) 44 ([some (.ref 13), o1, some (.int (v2)), some (.int (v3)), some (.ref (f4))], [], (hp M J R 38 43 nL xs D)) =
    px_bd (X 43 [.ref 38, .int (v3), .ref (f4), .int (v2)] (hp M J R 38 43 nL xs D))
    (fun v G1 => px_p (kX11_worth X) 44 7 ([some (.ref 13), none, some (.int (v2)), some (.int (v3)), some (.ref (f4))], px_psh v [], G1)) := (px_run_eq _ _ _).trans rfl
set_option maxRecDepth 40000 in
theorem eX11_worth_38_44_7 (X : px_X) (M : Nat → Nat → Int32) (J : Nat → Nat → Int64) (R : Nat → Nat → Option Nat) (nL : Nat) (xs : Nat → Int32) (D : px_H) (v2 : Int32) (v3 : Int32) (f4 : Nat) (w0 : Int32) : px_p (kX11_worth X) 44 7 ([some (.ref 13), none, some (.int (v2)), some (.int (v3)), some (.ref (f4))], [.int (w0)], (hp M J R 38 43 nL xs D)) =
    some (some (.long ((Int32.toInt64 w0))), (hp M J R 38 43 nL xs D)) := rfl
set_option maxRecDepth 40000 in
theorem eX11_worth_43_0 (X : px_X) (M : Nat → Nat → Int32) (J : Nat → Nat → Int64) (R : Nat → Nat → Option Nat) (nL : Nat) (xs : Nat → Int32) (D : px_H) (v1 : Int32) (v2 : Int32) (v3 : Int32) : px_run (px_mk (kX11_worth X)) 0 ([some (.ref 13), some (.int (v1)), some (.int (v2)), some (.int (v3)), none], [], (hp M J R 43 38 nL xs D)) =
    px_bd (X 111 [.ref 28, .int (v1)] (hp M J R 43 38 nL xs D))
    (fun v G1 => px_p (kX11_worth X) 0 4 ([some (.ref 13), some (.int (v1)), some (.int (v2)), some (.int (v3)), none], px_psh v [], G1)) := (px_run_eq _ _ _).trans rfl
set_option maxRecDepth 40000 in
theorem eX11_worth_43_0_4 (X : px_X) (M : Nat → Nat → Int32) (J : Nat → Nat → Int64) (R : Nat → Nat → Option Nat) (nL : Nat) (xs : Nat → Int32) (D : px_H) (v1 : Int32) (v2 : Int32) (v3 : Int32) (g0 : Nat) : px_p (kX11_worth X) 0 4 ([some (.ref 13), some (.int (v1)), some (.int (v2)), some (.int (v3)), none], [.ref (g0)], (hp M J R 43 38 nL xs D)) =
    px_bd (X 137 [.int (v2)] (hp M J R 43 38 nL xs D))
    (fun v G1 => px_p (kX11_worth X) 0 9 ([some (.ref 13), some (.int (v1)), some (.int (v2)), some (.int (v3)), some (.ref (g0))], px_psh v [], G1)) := rfl
set_option maxRecDepth 40000 in
theorem eX11_worth_43_0_4_b (X : px_X) (M : Nat → Nat → Int32) (J : Nat → Nat → Int64) (R : Nat → Nat → Option Nat) (nL : Nat) (xs : Nat → Int32) (D : px_H) (v1 : Int32) (v2 : Int32) (v3 : Int32) : px_p (kX11_worth X) 0 4 ([some (.ref 13), some (.int (v1)), some (.int (v2)), some (.int (v3)), none], [.null], (hp M J R 43 38 nL xs D)) =
    px_run (px_mk (kX11_worth X)) 40 ([some (.ref 13), some (.int (v1)), some (.int (v2)), some (.int (v3)), some (.null)], [], (hp M J R 43 38 nL xs D)) := rfl
set_option maxRecDepth 40000 in
theorem eX11_worth_43_0_9 (X : px_X) (M : Nat → Nat → Int32) (J : Nat → Nat → Int64) (R : Nat → Nat → Option Nat) (nL : Nat) (xs : Nat → Int32) (D : px_H) (v1 : Int32) (v2 : Int32) (v3 : Int32) (f4 : Nat) (w0 : Int32) : px_p (kX11_worth X) 0 9 ([some (.ref 13), some (.int (v1)), some (.int (v2)), some (.int (v3)), some (.ref (f4))], [.int (w0)], (hp M J R 43 38 nL xs D)) =
    cond (decide (w0 = 0))
    (px_run (px_mk (kX11_worth X)) 40 ([some (.ref 13), some (.int (v1)), some (.int (v2)), some (.int (v3)), some (.ref (f4))], [], (hp M J R 43 38 nL xs D)))
    (cond (decide (v3 < 0))
    (px_run (px_mk (kX11_worth X)) 40 ([some (.ref 13), some (.int (v1)), some (.int (v2)), some (.int (v3)), some (.ref (f4))], [], (hp M J R 43 38 nL xs D)))
    (cond (decide (v3 < M 43 0))
    (px_run (px_mk (kX11_worth X)) 44 ([some (.ref 13), some (.int (v1)), some (.int (v2)), some (.int (v3)), some (.ref (f4))], [], (hp M J R 43 38 nL xs D)))
    (px_run (px_mk (kX11_worth X)) 40 ([some (.ref 13), some (.int (v1)), some (.int (v2)), some (.int (v3)), some (.ref (f4))], [], (hp M J R 43 38 nL xs D))))) := rfl
set_option maxRecDepth 40000 in
theorem eX11_worth_43_40 (X : px_X) (M : Nat → Nat → Int32) (J : Nat → Nat → Int64) (R : Nat → Nat → Option Nat) (nL : Nat) (xs : Nat → Int32) (D : px_H) (o0 : Option Value) (o1 : Option Value) (o2 : Option Value) (o3 : Option Value) (o4 : Option Value) : px_run (px_mk (kX11_worth X)) 40 ([o0, o1, o2, o3, o4], [], (hp M J R 43 38 nL xs D)) =
    some (some (.long ((-4611686018427387904))), (hp M J R 43 38 nL xs D)) := (px_run_eq _ _ _).trans rfl
set_option maxRecDepth 40000 in
theorem eX11_worth_43_44 (X : px_X) (M : Nat → Nat → Int32) (J : Nat → Nat → Int64) (R : Nat → Nat → Option Nat) (nL : Nat) (xs : Nat → Int32) (D : px_H) (o1 : Option Value) (v2 : Int32) (v3 : Int32) (f4 : Nat) : px_run (px_mk (kX11_worth X)) 44 ([some (.ref 13), o1, some (.int (v2)), some (.int (v3)), some (.ref (f4))], [], (hp M J R 43 38 nL xs D)) =
    px_bd (X 43 [.ref 43, .int (v3), .ref (f4), .int (v2)] (hp M J R 43 38 nL xs D))
    (fun v G1 => px_p (kX11_worth X) 44 7 ([some (.ref 13), none, some (.int (v2)), some (.int (v3)), some (.ref (f4))], px_psh v [], G1)) := (px_run_eq _ _ _).trans rfl
set_option maxRecDepth 40000 in
theorem eX11_worth_43_44_7 (X : px_X) (M : Nat → Nat → Int32) (J : Nat → Nat → Int64) (R : Nat → Nat → Option Nat) (nL : Nat) (xs : Nat → Int32) (D : px_H) (v2 : Int32) (v3 : Int32) (f4 : Nat) (w0 : Int32) : px_p (kX11_worth X) 44 7 ([some (.ref 13), none, some (.int (v2)), some (.int (v3)), some (.ref (f4))], [.int (w0)], (hp M J R 43 38 nL xs D)) =
    some (some (.long ((Int32.toInt64 w0))), (hp M J R 43 38 nL xs D)) := rfl
set_option maxRecDepth 40000 in
theorem eX11_bond_0 (X : px_X) (M : Nat → Nat → Int32) (J : Nat → Nat → Int64) (R : Nat → Nat → Option Nat) (c e : Nat) (nL : Nat) (xs : Nat → Int32) (D : px_H) (v1 : Int32) (v2 : Int32) (v3 : Int32) : px_run (px_mk (kX11_bond X)) 0 ([some (.ref 13), some (.int (v1)), some (.int (v2)), some (.int (v3)), none, none], [], (hp M J R c e nL xs D)) =
    px_bd (X 112 [.ref 28, .int (v1)] (hp M J R c e nL xs D))
    (fun v G1 => px_p (kX11_bond X) 0 4 ([some (.ref 13), some (.int (v1)), some (.int (v2)), some (.int (v3)), none, none], px_psh v [], G1)) := (px_run_eq _ _ _).trans rfl
set_option maxRecDepth 40000 in
theorem eX11_bond_0_4 (X : px_X) (M : Nat → Nat → Int32) (J : Nat → Nat → Int64) (R : Nat → Nat → Option Nat) (c e : Nat) (nL : Nat) (xs : Nat → Int32) (D : px_H) (v1 : Int32) (v2 : Int32) (v3 : Int32) (g0 : Nat) : px_p (kX11_bond X) 0 4 ([some (.ref 13), some (.int (v1)), some (.int (v2)), some (.int (v3)), none, none], [.ref (g0)], (hp M J R c e nL xs D)) =
    px_bd (X 112 [.ref 28, .int (v2)] (hp M J R c e nL xs D))
    (fun v G1 => px_p (kX11_bond X) 0 9 ([some (.ref 13), some (.int (v1)), some (.int (v2)), some (.int (v3)), some (.ref (g0)), none], px_psh v [], G1)) := rfl
set_option maxRecDepth 40000 in
theorem eX11_bond_0_4_b (X : px_X) (M : Nat → Nat → Int32) (J : Nat → Nat → Int64) (R : Nat → Nat → Option Nat) (c e : Nat) (nL : Nat) (xs : Nat → Int32) (D : px_H) (v1 : Int32) (v2 : Int32) (v3 : Int32) : px_p (kX11_bond X) 0 4 ([some (.ref 13), some (.int (v1)), some (.int (v2)), some (.int (v3)), none, none], [.null], (hp M J R c e nL xs D)) =
    px_bd (X 112 [.ref 28, .int (v2)] (hp M J R c e nL xs D))
    (fun v G1 => px_p (kX11_bond X) 0 9 ([some (.ref 13), some (.int (v1)), some (.int (v2)), some (.int (v3)), some (.null), none], px_psh v [], G1)) := rfl
set_option maxRecDepth 40000 in
theorem eX11_bond_0_9 (X : px_X) (M : Nat → Nat → Int32) (J : Nat → Nat → Int64) (R : Nat → Nat → Option Nat) (c e : Nat) (nL : Nat) (xs : Nat → Int32) (D : px_H) (v1 : Int32) (v2 : Int32) (v3 : Int32) (f4 : Nat) (g0 : Nat) : px_p (kX11_bond X) 0 9 ([some (.ref 13), some (.int (v1)), some (.int (v2)), some (.int (v3)), some (.ref (f4)), none], [.ref (g0)], (hp M J R c e nL xs D)) =
    cond (decide (v1 = v2))
    (px_run (px_mk (kX11_bond X)) 44 ([some (.ref 13), some (.int (v1)), some (.int (v2)), some (.int (v3)), some (.ref (f4)), some (.ref (g0))], [], (hp M J R c e nL xs D)))
    (cond (decide (v3 < 0))
    (px_run (px_mk (kX11_bond X)) 44 ([some (.ref 13), some (.int (v1)), some (.int (v2)), some (.int (v3)), some (.ref (f4)), some (.ref (g0))], [], (hp M J R c e nL xs D)))
    (cond (decide (v3 ≤ 1))
    (px_run (px_mk (kX11_bond X)) 48 ([some (.ref 13), some (.int (v1)), some (.int (v2)), some (.int (v3)), some (.ref (f4)), some (.ref (g0))], [], (hp M J R c e nL xs D)))
    (px_run (px_mk (kX11_bond X)) 44 ([some (.ref 13), some (.int (v1)), some (.int (v2)), some (.int (v3)), some (.ref (f4)), some (.ref (g0))], [], (hp M J R c e nL xs D))))) := rfl
set_option maxRecDepth 40000 in
theorem eX11_bond_0_9_b (X : px_X) (M : Nat → Nat → Int32) (J : Nat → Nat → Int64) (R : Nat → Nat → Option Nat) (c e : Nat) (nL : Nat) (xs : Nat → Int32) (D : px_H) (v1 : Int32) (v2 : Int32) (v3 : Int32) (f4 : Nat) : px_p (kX11_bond X) 0 9 ([some (.ref 13), some (.int (v1)), some (.int (v2)), some (.int (v3)), some (.ref (f4)), none], [.null], (hp M J R c e nL xs D)) =
    px_run (px_mk (kX11_bond X)) 44 ([some (.ref 13), some (.int (v1)), some (.int (v2)), some (.int (v3)), some (.ref (f4)), some (.null)], [], (hp M J R c e nL xs D)) := rfl
set_option maxRecDepth 40000 in
theorem eX11_bond_0_9_c (X : px_X) (M : Nat → Nat → Int32) (J : Nat → Nat → Int64) (R : Nat → Nat → Option Nat) (c e : Nat) (nL : Nat) (xs : Nat → Int32) (D : px_H) (v1 : Int32) (v2 : Int32) (v3 : Int32) (g0 : Nat) : px_p (kX11_bond X) 0 9 ([some (.ref 13), some (.int (v1)), some (.int (v2)), some (.int (v3)), some (.null), none], [.ref (g0)], (hp M J R c e nL xs D)) =
    px_run (px_mk (kX11_bond X)) 44 ([some (.ref 13), some (.int (v1)), some (.int (v2)), some (.int (v3)), some (.null), some (.ref (g0))], [], (hp M J R c e nL xs D)) := rfl
set_option maxRecDepth 40000 in
theorem eX11_bond_0_9_d (X : px_X) (M : Nat → Nat → Int32) (J : Nat → Nat → Int64) (R : Nat → Nat → Option Nat) (c e : Nat) (nL : Nat) (xs : Nat → Int32) (D : px_H) (v1 : Int32) (v2 : Int32) (v3 : Int32) : px_p (kX11_bond X) 0 9 ([some (.ref 13), some (.int (v1)), some (.int (v2)), some (.int (v3)), some (.null), none], [.null], (hp M J R c e nL xs D)) =
    px_run (px_mk (kX11_bond X)) 44 ([some (.ref 13), some (.int (v1)), some (.int (v2)), some (.int (v3)), some (.null), some (.null)], [], (hp M J R c e nL xs D)) := rfl
set_option maxRecDepth 40000 in
theorem eX11_bond_44 (X : px_X) (M : Nat → Nat → Int32) (J : Nat → Nat → Int64) (R : Nat → Nat → Option Nat) (c e : Nat) (nL : Nat) (xs : Nat → Int32) (D : px_H) (o0 : Option Value) (o1 : Option Value) (o2 : Option Value) (o3 : Option Value) (o4 : Option Value) (o5 : Option Value) : px_run (px_mk (kX11_bond X)) 44 ([o0, o1, o2, o3, o4, o5], [], (hp M J R c e nL xs D)) =
    some (some (.int ((-1000))), (hp M J R c e nL xs D)) := (px_run_eq _ _ _).trans rfl
set_option maxRecDepth 40000 in
theorem eX11_bond_48 (X : px_X) (M : Nat → Nat → Int32) (J : Nat → Nat → Int64) (R : Nat → Nat → Option Nat) (c e : Nat) (nL : Nat) (xs : Nat → Int32) (D : px_H) (o1 : Option Value) (o2 : Option Value) (v3 : Int32) (f4 : Nat) (f5 : Nat) : px_run (px_mk (kX11_bond X)) 48 ([some (.ref 13), o1, o2, some (.int (v3)), some (.ref (f4)), some (.ref (f5))], [], (hp M J R c e nL xs D)) =
    px_bd (X 99 [.ref 49, .ref (f4), .ref (f5)] (hp M J R c e nL xs D))
    (fun v G1 => px_p (kX11_bond X) 48 5 ([some (.ref 13), none, none, some (.int (v3)), some (.ref (f4)), some (.ref (f5))], px_psh v [], G1)) := (px_run_eq _ _ _).trans rfl
set_option maxRecDepth 40000 in
theorem eX11_bond_48_5 (X : px_X) (M : Nat → Nat → Int32) (J : Nat → Nat → Int64) (R : Nat → Nat → Option Nat) (c e : Nat) (nL : Nat) (xs : Nat → Int32) (D : px_H) (v3 : Int32) (f4 : Nat) (f5 : Nat) : px_p (kX11_bond X) 48 5 ([some (.ref 13), none, none, some (.int (v3)), some (.ref (f4)), some (.ref (f5))], [], (hp M J R c e nL xs D)) =
    cond (decide (¬ v3 = 0))
    (px_run (px_mk (kX11_bond X)) 73 ([some (.ref 13), none, none, some (.int (v3)), some (.ref (f4)), some (.ref (f5))], [], (hp M J R c e nL xs D)))
    (px_run (px_mk (kX11_bond X)) 80 ([some (.ref 13), none, none, some (.int (v3)), some (.ref (f4)), some (.ref (f5))], [.int (M 49 1)], (hp M J R c e nL xs D))) := rfl
set_option maxRecDepth 40000 in
theorem eX11_bond_73 (X : px_X) (M : Nat → Nat → Int32) (J : Nat → Nat → Int64) (R : Nat → Nat → Option Nat) (c e : Nat) (nL : Nat) (xs : Nat → Int32) (D : px_H) (o1 : Option Value) (o2 : Option Value) (o3 : Option Value) (o4 : Option Value) (o5 : Option Value) : px_run (px_mk (kX11_bond X)) 73 ([some (.ref 13), o1, o2, o3, o4, o5], [], (hp M J R c e nL xs D)) =
    px_run (px_mk (kX11_bond X)) 80 ([some (.ref 13), none, none, none, none, none], [.int (M 49 2)], (hp M J R c e nL xs D)) := (px_run_eq _ _ _).trans rfl
set_option maxRecDepth 40000 in
theorem eX11_bond_80 (X : px_X) (M : Nat → Nat → Int32) (J : Nat → Nat → Int64) (R : Nat → Nat → Option Nat) (c e : Nat) (nL : Nat) (xs : Nat → Int32) (D : px_H) (o0 : Option Value) (o1 : Option Value) (o2 : Option Value) (o3 : Option Value) (o4 : Option Value) (o5 : Option Value) (w0 : Int32) : px_run (px_mk (kX11_bond X)) 80 ([o0, o1, o2, o3, o4, o5], [.int (w0)], (hp M J R c e nL xs D)) =
    some (some (.int (w0)), (hp M J R c e nL xs D)) := (px_run_eq _ _ _).trans rfl
set_option maxRecDepth 40000 in
theorem eX11_best_0 (X : px_X) (M : Nat → Nat → Int32) (J : Nat → Nat → Int64) (R : Nat → Nat → Option Nat) (c e : Nat) (nL : Nat) (xs : Nat → Int32) (D : px_H) (v1 : Int32) : px_run (px_mk (kX11_best X)) 0 ([some (.ref 13), some (.int (v1))], [], (hp M J R c e nL xs D)) =
    px_bd (X 101 [.ref 49, .ref 28, .int (v1)] (hp M J R c e nL xs D))
    (fun v G1 => px_p (kX11_best X) 0 6 ([some (.ref 13), some (.int (v1))], px_psh v [], G1)) := (px_run_eq _ _ _).trans rfl
set_option maxRecDepth 40000 in
theorem eX11_best_0_6 (X : px_X) (M : Nat → Nat → Int32) (J : Nat → Nat → Int64) (R : Nat → Nat → Option Nat) (c e : Nat) (nL : Nat) (xs : Nat → Int32) (D : px_H) (v1 : Int32) (w0 : Int32) : px_p (kX11_best X) 0 6 ([some (.ref 13), some (.int (v1))], [.int (w0)], (hp M J R c e nL xs D)) =
    some (some (.int (w0)), (hp M J R c e nL xs D)) := rfl
set_option maxRecDepth 40000 in
theorem eX11_joined_0 (X : px_X) (M : Nat → Nat → Int32) (J : Nat → Nat → Int64) (R : Nat → Nat → Option Nat) (c e : Nat) (nL : Nat) (xs : Nat → Int32) (D : px_H) (v1 : Int32) : px_run (px_mk (kX11_joined X)) 0 ([some (.ref 13), some (.int (v1)), none], [], (hp M J R c e nL xs D)) =
    px_bd (X 101 [.ref 49, .ref 28, .int (v1)] (hp M J R c e nL xs D))
    (fun v G1 => px_p (kX11_joined X) 0 6 ([some (.ref 13), some (.int (v1)), none], px_psh v [], G1)) := (px_run_eq _ _ _).trans rfl
set_option maxRecDepth 40000 in
theorem eX11_joined_0_6 (X : px_X) (M : Nat → Nat → Int32) (J : Nat → Nat → Int64) (R : Nat → Nat → Option Nat) (c e : Nat) (nL : Nat) (xs : Nat → Int32) (D : px_H) (v1 : Int32) (w0 : Int32) : px_p (kX11_joined X) 0 6 ([some (.ref 13), some (.int (v1)), none], [.int (w0)], (hp M J R c e nL xs D)) =
    cond (decide (0 ≤ w0))
    (px_run (px_mk (kX11_joined X)) 19 ([some (.ref 13), some (.int (v1)), some (.int (w0))], [], (hp M J R c e nL xs D)))
    (some (some (.int (w0)), (hp M J R c e nL xs D))) := rfl
set_option maxRecDepth 40000 in
theorem eX11_joined_19 (X : px_X) (M : Nat → Nat → Int32) (J : Nat → Nat → Int64) (R : Nat → Nat → Option Nat) (c e : Nat) (nL : Nat) (xs : Nat → Int32) (D : px_H) (v1 : Int32) (v2 : Int32) : px_run (px_mk (kX11_joined X)) 19 ([some (.ref 13), some (.int (v1)), some (.int (v2))], [], (hp M J R c e nL xs D)) =
    px_bd (X 101 [.ref 49, .ref 28, .int (v2)] (hp M J R c e nL xs D))
    (fun v G1 => px_p (kX11_joined X) 19 6 ([some (.ref 13), some (.int (v1)), some (.int (v2))], px_psh v [], G1)) := (px_run_eq _ _ _).trans rfl
set_option maxRecDepth 40000 in
theorem eX11_joined_19_6 (X : px_X) (M : Nat → Nat → Int32) (J : Nat → Nat → Int64) (R : Nat → Nat → Option Nat) (c e : Nat) (nL : Nat) (xs : Nat → Int32) (D : px_H) (v1 : Int32) (v2 : Int32) (w0 : Int32) : px_p (kX11_joined X) 19 6 ([some (.ref 13), some (.int (v1)), some (.int (v2))], [.int (w0)], (hp M J R c e nL xs D)) =
    cond (decide (¬ w0 = v1))
    (px_run (px_mk (kX11_joined X)) 39 ([some (.ref 13), some (.int (v1)), some (.int (v2))], [], (hp M J R c e nL xs D)))
    (px_run (px_mk (kX11_joined X)) 40 ([some (.ref 13), some (.int (v1)), some (.int (v2))], [.int (v2)], (hp M J R c e nL xs D))) := rfl
set_option maxRecDepth 40000 in
theorem eX11_joined_39 (X : px_X) (M : Nat → Nat → Int32) (J : Nat → Nat → Int64) (R : Nat → Nat → Option Nat) (c e : Nat) (nL : Nat) (xs : Nat → Int32) (D : px_H) (o0 : Option Value) (o1 : Option Value) (o2 : Option Value) : px_run (px_mk (kX11_joined X)) 39 ([o0, o1, o2], [], (hp M J R c e nL xs D)) =
    px_run (px_mk (kX11_joined X)) 40 ([none, none, none], [.int ((-1))], (hp M J R c e nL xs D)) := (px_run_eq _ _ _).trans rfl
set_option maxRecDepth 40000 in
theorem eX11_joined_40 (X : px_X) (M : Nat → Nat → Int32) (J : Nat → Nat → Int64) (R : Nat → Nat → Option Nat) (c e : Nat) (nL : Nat) (xs : Nat → Int32) (D : px_H) (o0 : Option Value) (o1 : Option Value) (o2 : Option Value) (w0 : Int32) : px_run (px_mk (kX11_joined X)) 40 ([o0, o1, o2], [.int (w0)], (hp M J R c e nL xs D)) =
    some (some (.int (w0)), (hp M J R c e nL xs D)) := (px_run_eq _ _ _).trans rfl
set_option maxRecDepth 40000 in
theorem eX11_task_0 (X : px_X) (M : Nat → Nat → Int32) (J : Nat → Nat → Int64) (R : Nat → Nat → Option Nat) (c e : Nat) (nL : Nat) (xs : Nat → Int32) (D : px_H) (v1 : Int32) (v2 : Int32) : px_run (px_mk (kX11_task X)) 0 ([some (.ref 13), some (.int (v1)), some (.int (v2))], [], (hp M J R c e nL xs D)) =
    px_bd (X 31 [.ref 51, .int (v1), .int (v2)] (hp M J R c e nL xs D))
    (fun v G1 => px_p (kX11_task X) 0 5 ([some (.ref 13), some (.int (v1)), some (.int (v2))], px_psh v [], G1)) := (px_run_eq _ _ _).trans rfl
set_option maxRecDepth 40000 in
theorem eX11_task_0_5 (X : px_X) (M : Nat → Nat → Int32) (J : Nat → Nat → Int64) (R : Nat → Nat → Option Nat) (c e : Nat) (nL : Nat) (xs : Nat → Int32) (D : px_H) (v1 : Int32) (v2 : Int32) (w0 : Int32) : px_p (kX11_task X) 0 5 ([some (.ref 13), some (.int (v1)), some (.int (v2))], [.int (w0)], (hp M J R c e nL xs D)) =
    some (some (.int (w0)), (hp M J R c e nL xs D)) := rfl
set_option maxRecDepth 40000 in
theorem eX11_gang_0 (X : px_X) (M : Nat → Nat → Int32) (J : Nat → Nat → Int64) (R : Nat → Nat → Option Nat) (c e : Nat) (nL : Nat) (xs : Nat → Int32) (D : px_H) (v1 : Int32) : px_run (px_mk (kX11_gang X)) 0 ([some (.ref 13), some (.int (v1))], [], (hp M J R c e nL xs D)) =
    px_bd (X 32 [.ref 51, .int (v1)] (hp M J R c e nL xs D))
    (fun v G1 => px_p (kX11_gang X) 0 4 ([some (.ref 13), some (.int (v1))], px_psh v [], G1)) := (px_run_eq _ _ _).trans rfl
set_option maxRecDepth 40000 in
theorem eX11_gang_0_4 (X : px_X) (M : Nat → Nat → Int32) (J : Nat → Nat → Int64) (R : Nat → Nat → Option Nat) (c e : Nat) (nL : Nat) (xs : Nat → Int32) (D : px_H) (v1 : Int32) (w0 : Int32) : px_p (kX11_gang X) 0 4 ([some (.ref 13), some (.int (v1))], [.int (w0)], (hp M J R c e nL xs D)) =
    some (some (.int (w0)), (hp M J R c e nL xs D)) := rfl
