/-! block equations over the fixed layout (written by wip/whole/seg.py) -/
set_option maxRecDepth 40000 in
theorem eX11_plan_0 (X : px_X) (M : Nat → Nat → Int32) (J : Nat → Nat → Int64) (R : Nat → Nat → Option Nat) (c e : Nat) (nL : Nat) (xs : Nat → Int32) (D : px_H)  : px_run (px_mk (kX11_plan X)) 0 ([some (.ref 13)], [], (hp M J R c e nL xs D)) =
    px_bd (X 33 [.ref 51] (hp M J R c e nL xs D))
    (fun v G1 => px_p (kX11_plan X) 0 3 ([some (.ref 13)], px_psh v [], G1)) := (px_run_eq _ _ _).trans rfl
set_option maxRecDepth 40000 in
theorem eX11_plan_0_3 (X : px_X) (M : Nat → Nat → Int32) (J : Nat → Nat → Int64) (R : Nat → Nat → Option Nat) (c e : Nat) (nL : Nat) (xs : Nat → Int32) (D : px_H) (w0 : Int32) : px_p (kX11_plan X) 0 3 ([some (.ref 13)], [.int (w0)], (hp M J R c e nL xs D)) =
    some (some (.int (w0)), (hp M J R c e nL xs D)) := rfl
set_option maxRecDepth 40000 in
theorem eX11_planned_0 (X : px_X) (M : Nat → Nat → Int32) (J : Nat → Nat → Int64) (R : Nat → Nat → Option Nat) (c e : Nat) (nL : Nat) (xs : Nat → Int32) (D : px_H) (v1 : Int32) : px_run (px_mk (kX11_planned X)) 0 ([some (.ref 13), some (.int (v1))], [], (hp M J R c e nL xs D)) =
    px_bd (X 34 [.ref 51, .int (v1)] (hp M J R c e nL xs D))
    (fun v G1 => px_p (kX11_planned X) 0 4 ([some (.ref 13), some (.int (v1))], px_psh v [], G1)) := (px_run_eq _ _ _).trans rfl
set_option maxRecDepth 40000 in
theorem eX11_planned_0_4 (X : px_X) (M : Nat → Nat → Int32) (J : Nat → Nat → Int64) (R : Nat → Nat → Option Nat) (c e : Nat) (nL : Nat) (xs : Nat → Int32) (D : px_H) (v1 : Int32) (w0 : Int32) : px_p (kX11_planned X) 0 4 ([some (.ref 13), some (.int (v1))], [.int (w0)], (hp M J R c e nL xs D)) =
    some (some (.int (w0)), (hp M J R c e nL xs D)) := rfl
set_option maxRecDepth 40000 in
theorem eX11_hatches_0 (X : px_X) (M : Nat → Nat → Int32) (J : Nat → Nat → Int64) (R : Nat → Nat → Option Nat) (c e : Nat) (nL : Nat) (xs : Nat → Int32) (D : px_H) (v1 : Int32) : px_run (px_mk (kX11_hatches X)) 0 ([some (.ref 13), some (.int (v1))], [], (hp M J R c e nL xs D)) =
    px_bd (X 103 [.ref 58, .int (v1)] (hp M J R c e nL xs D))
    (fun v G1 => px_p (kX11_hatches X) 0 4 ([some (.ref 13), some (.int (v1))], px_psh v [], G1)) := (px_run_eq _ _ _).trans rfl
set_option maxRecDepth 40000 in
theorem eX11_hatches_0_4 (X : px_X) (M : Nat → Nat → Int32) (J : Nat → Nat → Int64) (R : Nat → Nat → Option Nat) (c e : Nat) (nL : Nat) (xs : Nat → Int32) (D : px_H) (v1 : Int32) (w0 : Int32) : px_p (kX11_hatches X) 0 4 ([some (.ref 13), some (.int (v1))], [.int (w0)], (hp M J R c e nL xs D)) =
    some (some (.int (w0)), (hp M J R c e nL xs D)) := rfl
set_option maxRecDepth 40000 in
theorem eX11_roll_0 (X : px_X) (M : Nat → Nat → Int32) (J : Nat → Nat → Int64) (R : Nat → Nat → Option Nat) (c e : Nat) (nL : Nat) (xs : Nat → Int32) (D : px_H) (v1 : Int32) : px_run (px_mk (kX11_roll X)) 0 ([some (.ref 13), some (.int (v1))], [], (hp M J R c e nL xs D)) =
    px_bd (X 104 [.ref 58, .int (v1)] (hp M J R c e nL xs D))
    (fun v G1 => px_p (kX11_roll X) 0 4 ([some (.ref 13), some (.int (v1))], px_psh v [], G1)) := (px_run_eq _ _ _).trans rfl
set_option maxRecDepth 40000 in
theorem eX11_roll_0_4 (X : px_X) (M : Nat → Nat → Int32) (J : Nat → Nat → Int64) (R : Nat → Nat → Option Nat) (c e : Nat) (nL : Nat) (xs : Nat → Int32) (D : px_H) (v1 : Int32) (w0 : Int32) : px_p (kX11_roll X) 0 4 ([some (.ref 13), some (.int (v1))], [.int (w0)], (hp M J R c e nL xs D)) =
    some (some (.int (w0)), (hp M J R c e nL xs D)) := rfl
set_option maxRecDepth 40000 in
theorem eX11_stood_0 (X : px_X) (M : Nat → Nat → Int32) (J : Nat → Nat → Int64) (R : Nat → Nat → Option Nat) (c e : Nat) (nL : Nat) (xs : Nat → Int32) (D : px_H) (v1 : Int32) : px_run (px_mk (kX11_stood X)) 0 ([some (.ref 13), some (.int (v1)), none], [], (hp M J R c e nL xs D)) =
    px_bd (X 111 [.ref 28, .int (v1)] (hp M J R c e nL xs D))
    (fun v G1 => px_p (kX11_stood X) 0 4 ([some (.ref 13), some (.int (v1)), none], px_psh v [], G1)) := (px_run_eq _ _ _).trans rfl
set_option maxRecDepth 40000 in
theorem eX11_stood_0_4 (X : px_X) (M : Nat → Nat → Int32) (J : Nat → Nat → Int64) (R : Nat → Nat → Option Nat) (c e : Nat) (nL : Nat) (xs : Nat → Int32) (D : px_H) (v1 : Int32) (g0 : Nat) : px_p (kX11_stood X) 0 4 ([some (.ref 13), some (.int (v1)), none], [.ref (g0)], (hp M J R c e nL xs D)) =
    px_run (px_mk (kX11_stood X)) 18 ([some (.ref 13), some (.int (v1)), some (.ref (g0))], [], (hp M J R c e nL xs D)) := rfl
set_option maxRecDepth 40000 in
theorem eX11_stood_0_4_b (X : px_X) (M : Nat → Nat → Int32) (J : Nat → Nat → Int64) (R : Nat → Nat → Option Nat) (c e : Nat) (nL : Nat) (xs : Nat → Int32) (D : px_H) (v1 : Int32) : px_p (kX11_stood X) 0 4 ([some (.ref 13), some (.int (v1)), none], [.null], (hp M J R c e nL xs D)) =
    px_run (px_mk (kX11_stood X)) 26 ([some (.ref 13), some (.int (v1)), some (.null)], [.int ((-2))], (hp M J R c e nL xs D)) := rfl
set_option maxRecDepth 40000 in
theorem eX11_stood_18_4 (X : px_X) (st : px_S) : px_p (kX11_stood X) 18 4 st = px_run (px_mk (kX11_stood X)) 26 st := rfl
set_option maxRecDepth 40000 in
theorem eX11_stood_18 (X : px_X) (M : Nat → Nat → Int32) (J : Nat → Nat → Int64) (R : Nat → Nat → Option Nat) (c e : Nat) (nL : Nat) (xs : Nat → Int32) (D : px_H) (o1 : Option Value) (f2 : Nat) : px_run (px_mk (kX11_stood X)) 18 ([some (.ref 13), o1, some (.ref (f2))], [], (hp M J R c e nL xs D)) =
    px_bd (X 105 [.ref 58, .ref (f2)] (hp M J R c e nL xs D))
    (fun v G1 => px_p (kX11_stood X) 18 4 ([some (.ref 13), none, some (.ref (f2))], px_psh v [], G1)) := (px_run_eq _ _ _).trans rfl
set_option maxRecDepth 40000 in
theorem eX11_stood_26 (X : px_X) (M : Nat → Nat → Int32) (J : Nat → Nat → Int64) (R : Nat → Nat → Option Nat) (c e : Nat) (nL : Nat) (xs : Nat → Int32) (D : px_H) (o0 : Option Value) (o1 : Option Value) (o2 : Option Value) (w0 : Int32) : px_run (px_mk (kX11_stood X)) 26 ([o0, o1, o2], [.int (w0)], (hp M J R c e nL xs D)) =
    some (some (.int (w0)), (hp M J R c e nL xs D)) := (px_run_eq _ _ _).trans rfl
set_option maxRecDepth 40000 in
theorem eX11_stoodAt_0 (X : px_X) (M : Nat → Nat → Int32) (J : Nat → Nat → Int64) (R : Nat → Nat → Option Nat) (c e : Nat) (nL : Nat) (xs : Nat → Int32) (D : px_H) (v1 : Int32) (v2 : Int32) : px_run (px_mk (kX11_stoodAt X)) 0 ([some (.ref 13), some (.int (v1)), some (.int (v2)), none], [], (hp M J R c e nL xs D)) =
    px_bd (X 111 [.ref 28, .int (v1)] (hp M J R c e nL xs D))
    (fun v G1 => px_p (kX11_stoodAt X) 0 4 ([some (.ref 13), some (.int (v1)), some (.int (v2)), none], px_psh v [], G1)) := (px_run_eq _ _ _).trans rfl
set_option maxRecDepth 40000 in
theorem eX11_stoodAt_0_4 (X : px_X) (M : Nat → Nat → Int32) (J : Nat → Nat → Int64) (R : Nat → Nat → Option Nat) (c e : Nat) (nL : Nat) (xs : Nat → Int32) (D : px_H) (v1 : Int32) (v2 : Int32) (g0 : Nat) : px_p (kX11_stoodAt X) 0 4 ([some (.ref 13), some (.int (v1)), some (.int (v2)), none], [.ref (g0)], (hp M J R c e nL xs D)) =
    px_run (px_mk (kX11_stoodAt X)) 18 ([some (.ref 13), some (.int (v1)), some (.int (v2)), some (.ref (g0))], [], (hp M J R c e nL xs D)) := rfl
set_option maxRecDepth 40000 in
theorem eX11_stoodAt_0_4_b (X : px_X) (M : Nat → Nat → Int32) (J : Nat → Nat → Int64) (R : Nat → Nat → Option Nat) (c e : Nat) (nL : Nat) (xs : Nat → Int32) (D : px_H) (v1 : Int32) (v2 : Int32) : px_p (kX11_stoodAt X) 0 4 ([some (.ref 13), some (.int (v1)), some (.int (v2)), none], [.null], (hp M J R c e nL xs D)) =
    px_run (px_mk (kX11_stoodAt X)) 27 ([some (.ref 13), some (.int (v1)), some (.int (v2)), some (.null)], [.int ((-2))], (hp M J R c e nL xs D)) := rfl
set_option maxRecDepth 40000 in
theorem eX11_stoodAt_18_5 (X : px_X) (st : px_S) : px_p (kX11_stoodAt X) 18 5 st = px_run (px_mk (kX11_stoodAt X)) 27 st := rfl
set_option maxRecDepth 40000 in
theorem eX11_stoodAt_18 (X : px_X) (M : Nat → Nat → Int32) (J : Nat → Nat → Int64) (R : Nat → Nat → Option Nat) (c e : Nat) (nL : Nat) (xs : Nat → Int32) (D : px_H) (o1 : Option Value) (v2 : Int32) (f3 : Nat) : px_run (px_mk (kX11_stoodAt X)) 18 ([some (.ref 13), o1, some (.int (v2)), some (.ref (f3))], [], (hp M J R c e nL xs D)) =
    px_bd (X 106 [.ref 58, .ref (f3), .int (v2)] (hp M J R c e nL xs D))
    (fun v G1 => px_p (kX11_stoodAt X) 18 5 ([some (.ref 13), none, some (.int (v2)), some (.ref (f3))], px_psh v [], G1)) := (px_run_eq _ _ _).trans rfl
set_option maxRecDepth 40000 in
theorem eX11_stoodAt_27 (X : px_X) (M : Nat → Nat → Int32) (J : Nat → Nat → Int64) (R : Nat → Nat → Option Nat) (c e : Nat) (nL : Nat) (xs : Nat → Int32) (D : px_H) (o0 : Option Value) (o1 : Option Value) (o2 : Option Value) (o3 : Option Value) (w0 : Int32) : px_run (px_mk (kX11_stoodAt X)) 27 ([o0, o1, o2, o3], [.int (w0)], (hp M J R c e nL xs D)) =
    some (some (.int (w0)), (hp M J R c e nL xs D)) := (px_run_eq _ _ _).trans rfl
set_option maxRecDepth 40000 in
theorem eX11_count_38_0 (X : px_X) (M : Nat → Nat → Int32) (J : Nat → Nat → Int64) (R : Nat → Nat → Option Nat) (nL : Nat) (xs : Nat → Int32) (D : px_H) (v1 : Int32) : px_run (px_mk (kX11_count X)) 0 ([some (.ref 13), some (.int (v1))], [], (hp M J R 38 43 nL xs D)) =
    cond (decide (v1 = 0))
    (px_run (px_mk (kX11_count X)) 68 ([some (.ref 13), some (.int (v1))], [], (hp M J R 38 43 nL xs D)))
    (cond (decide (v1 = 1))
    (px_run (px_mk (kX11_count X)) 76 ([some (.ref 13), some (.int (v1))], [], (hp M J R 38 43 nL xs D)))
    (cond (decide (v1 = 2))
    (px_run (px_mk (kX11_count X)) 84 ([some (.ref 13), some (.int (v1))], [], (hp M J R 38 43 nL xs D)))
    (cond (decide (v1 = 3))
    (px_run (px_mk (kX11_count X)) 92 ([some (.ref 13), some (.int (v1))], [], (hp M J R 38 43 nL xs D)))
    (cond (decide (v1 = 4))
    (px_run (px_mk (kX11_count X)) 100 ([some (.ref 13), some (.int (v1))], [], (hp M J R 38 43 nL xs D)))
    (cond (decide (v1 = 5))
    (px_run (px_mk (kX11_count X)) 108 ([some (.ref 13), some (.int (v1))], [], (hp M J R 38 43 nL xs D)))
    (cond (decide (v1 = 6))
    (px_run (px_mk (kX11_count X)) 116 ([some (.ref 13), some (.int (v1))], [], (hp M J R 38 43 nL xs D)))
    (cond (decide (v1 = 7))
    (px_run (px_mk (kX11_count X)) 124 ([some (.ref 13), some (.int (v1))], [], (hp M J R 38 43 nL xs D)))
    (cond (decide (v1 = 8))
    (px_run (px_mk (kX11_count X)) 132 ([some (.ref 13), some (.int (v1))], [], (hp M J R 38 43 nL xs D)))
    (cond (decide (v1 = 9))
    (px_run (px_mk (kX11_count X)) 143 ([some (.ref 13), some (.int (v1))], [], (hp M J R 38 43 nL xs D)))
    (cond (decide (v1 = 10))
    (px_run (px_mk (kX11_count X)) 151 ([some (.ref 13), some (.int (v1))], [], (hp M J R 38 43 nL xs D)))
    (cond (decide (v1 = 11))
    (px_run (px_mk (kX11_count X)) 159 ([some (.ref 13), some (.int (v1))], [], (hp M J R 38 43 nL xs D)))
    (cond (decide (v1 = 12))
    (px_run (px_mk (kX11_count X)) 167 ([some (.ref 13), some (.int (v1))], [], (hp M J R 38 43 nL xs D)))
    (px_run (px_mk (kX11_count X)) 175 ([some (.ref 13), some (.int (v1))], [], (hp M J R 38 43 nL xs D))))))))))))))) := (px_run_eq _ _ _).trans rfl
set_option maxRecDepth 40000 in
theorem eX11_count_38_175 (X : px_X) (M : Nat → Nat → Int32) (J : Nat → Nat → Int64) (R : Nat → Nat → Option Nat) (nL : Nat) (xs : Nat → Int32) (D : px_H) (o0 : Option Value) (o1 : Option Value) : px_run (px_mk (kX11_count X)) 175 ([o0, o1], [], (hp M J R 38 43 nL xs D)) =
    some (some (.int ((-2))), (hp M J R 38 43 nL xs D)) := (px_run_eq _ _ _).trans rfl
set_option maxRecDepth 40000 in
theorem eX11_count_38_167 (X : px_X) (M : Nat → Nat → Int32) (J : Nat → Nat → Int64) (R : Nat → Nat → Option Nat) (nL : Nat) (xs : Nat → Int32) (D : px_H) (o1 : Option Value) : px_run (px_mk (kX11_count X)) 167 ([some (.ref 13), o1], [], (hp M J R 38 43 nL xs D)) =
    px_bd (X 88 [.ref 14] (hp M J R 38 43 nL xs D))
    (fun v G1 => px_p (kX11_count X) 167 3 ([some (.ref 13), none], px_psh v [], G1)) := (px_run_eq _ _ _).trans rfl
set_option maxRecDepth 40000 in
theorem eX11_count_38_159 (X : px_X) (M : Nat → Nat → Int32) (J : Nat → Nat → Int64) (R : Nat → Nat → Option Nat) (nL : Nat) (xs : Nat → Int32) (D : px_H) (o1 : Option Value) : px_run (px_mk (kX11_count X)) 159 ([some (.ref 13), o1], [], (hp M J R 38 43 nL xs D)) =
    px_bd (X 113 [.ref 28] (hp M J R 38 43 nL xs D))
    (fun v G1 => px_p (kX11_count X) 159 3 ([some (.ref 13), none], px_psh v [], G1)) := (px_run_eq _ _ _).trans rfl
set_option maxRecDepth 40000 in
theorem eX11_count_38_151 (X : px_X) (M : Nat → Nat → Int32) (J : Nat → Nat → Int64) (R : Nat → Nat → Option Nat) (nL : Nat) (xs : Nat → Int32) (D : px_H) (o1 : Option Value) : px_run (px_mk (kX11_count X)) 151 ([some (.ref 13), o1], [], (hp M J R 38 43 nL xs D)) =
    some (some (.int (M 51 1)), (hp M J R 38 43 nL xs D)) := (px_run_eq _ _ _).trans rfl
set_option maxRecDepth 40000 in
theorem eX11_count_38_143 (X : px_X) (M : Nat → Nat → Int32) (J : Nat → Nat → Int64) (R : Nat → Nat → Option Nat) (nL : Nat) (xs : Nat → Int32) (D : px_H) (o1 : Option Value) : px_run (px_mk (kX11_count X)) 143 ([some (.ref 13), o1], [], (hp M J R 38 43 nL xs D)) =
    some (some (.int (M 51 0)), (hp M J R 38 43 nL xs D)) := (px_run_eq _ _ _).trans rfl
set_option maxRecDepth 40000 in
theorem eX11_count_38_132 (X : px_X) (M : Nat → Nat → Int32) (J : Nat → Nat → Int64) (R : Nat → Nat → Option Nat) (nL : Nat) (xs : Nat → Int32) (D : px_H) (o1 : Option Value) : px_run (px_mk (kX11_count X)) 132 ([some (.ref 13), o1], [], (hp M J R 38 43 nL xs D)) =
    some (some (.int (M 38 0)), (hp M J R 38 43 nL xs D)) := (px_run_eq _ _ _).trans rfl
set_option maxRecDepth 40000 in
theorem eX11_count_38_124 (X : px_X) (M : Nat → Nat → Int32) (J : Nat → Nat → Int64) (R : Nat → Nat → Option Nat) (nL : Nat) (xs : Nat → Int32) (D : px_H) (o1 : Option Value) : px_run (px_mk (kX11_count X)) 124 ([some (.ref 13), o1], [], (hp M J R 38 43 nL xs D)) =
    some (some (.int (M 37 2)), (hp M J R 38 43 nL xs D)) := (px_run_eq _ _ _).trans rfl
set_option maxRecDepth 40000 in
theorem eX11_count_38_116 (X : px_X) (M : Nat → Nat → Int32) (J : Nat → Nat → Int64) (R : Nat → Nat → Option Nat) (nL : Nat) (xs : Nat → Int32) (D : px_H) (o1 : Option Value) : px_run (px_mk (kX11_count X)) 116 ([some (.ref 13), o1], [], (hp M J R 38 43 nL xs D)) =
    some (some (.int (M 32 2)), (hp M J R 38 43 nL xs D)) := (px_run_eq _ _ _).trans rfl
set_option maxRecDepth 40000 in
theorem eX11_count_38_108 (X : px_X) (M : Nat → Nat → Int32) (J : Nat → Nat → Int64) (R : Nat → Nat → Option Nat) (nL : Nat) (xs : Nat → Int32) (D : px_H) (o1 : Option Value) : px_run (px_mk (kX11_count X)) 108 ([some (.ref 13), o1], [], (hp M J R 38 43 nL xs D)) =
    some (some (.int (M 32 1)), (hp M J R 38 43 nL xs D)) := (px_run_eq _ _ _).trans rfl
set_option maxRecDepth 40000 in
theorem eX11_count_38_100 (X : px_X) (M : Nat → Nat → Int32) (J : Nat → Nat → Int64) (R : Nat → Nat → Option Nat) (nL : Nat) (xs : Nat → Int32) (D : px_H) (o1 : Option Value) : px_run (px_mk (kX11_count X)) 100 ([some (.ref 13), o1], [], (hp M J R 38 43 nL xs D)) =
    some (some (.int (M 32 0)), (hp M J R 38 43 nL xs D)) := (px_run_eq _ _ _).trans rfl
set_option maxRecDepth 40000 in
theorem eX11_count_38_92 (X : px_X) (M : Nat → Nat → Int32) (J : Nat → Nat → Int64) (R : Nat → Nat → Option Nat) (nL : Nat) (xs : Nat → Int32) (D : px_H) (o1 : Option Value) : px_run (px_mk (kX11_count X)) 92 ([some (.ref 13), o1], [], (hp M J R 38 43 nL xs D)) =
    some (some (.int (M 28 1)), (hp M J R 38 43 nL xs D)) := (px_run_eq _ _ _).trans rfl
set_option maxRecDepth 40000 in
theorem eX11_count_38_84 (X : px_X) (M : Nat → Nat → Int32) (J : Nat → Nat → Int64) (R : Nat → Nat → Option Nat) (nL : Nat) (xs : Nat → Int32) (D : px_H) (o1 : Option Value) : px_run (px_mk (kX11_count X)) 84 ([some (.ref 13), o1], [], (hp M J R 38 43 nL xs D)) =
    some (some (.int (M 28 0)), (hp M J R 38 43 nL xs D)) := (px_run_eq _ _ _).trans rfl
set_option maxRecDepth 40000 in
theorem eX11_count_38_76 (X : px_X) (M : Nat → Nat → Int32) (J : Nat → Nat → Int64) (R : Nat → Nat → Option Nat) (nL : Nat) (xs : Nat → Int32) (D : px_H) (o1 : Option Value) : px_run (px_mk (kX11_count X)) 76 ([some (.ref 13), o1], [], (hp M J R 38 43 nL xs D)) =
    some (some (.int (M 14 1)), (hp M J R 38 43 nL xs D)) := (px_run_eq _ _ _).trans rfl
set_option maxRecDepth 40000 in
theorem eX11_count_38_68 (X : px_X) (M : Nat → Nat → Int32) (J : Nat → Nat → Int64) (R : Nat → Nat → Option Nat) (nL : Nat) (xs : Nat → Int32) (D : px_H) (o1 : Option Value) : px_run (px_mk (kX11_count X)) 68 ([some (.ref 13), o1], [], (hp M J R 38 43 nL xs D)) =
    some (some (.int (M 14 0)), (hp M J R 38 43 nL xs D)) := (px_run_eq _ _ _).trans rfl
set_option maxRecDepth 40000 in
theorem eX11_count_38_167_3 (X : px_X) (M : Nat → Nat → Int32) (J : Nat → Nat → Int64) (R : Nat → Nat → Option Nat) (nL : Nat) (xs : Nat → Int32) (D : px_H) (w0 : Int32) : px_p (kX11_count X) 167 3 ([some (.ref 13), none], [.int (w0)], (hp M J R 38 43 nL xs D)) =
    some (some (.int (w0)), (hp M J R 38 43 nL xs D)) := rfl
set_option maxRecDepth 40000 in
theorem eX11_count_38_159_3 (X : px_X) (M : Nat → Nat → Int32) (J : Nat → Nat → Int64) (R : Nat → Nat → Option Nat) (nL : Nat) (xs : Nat → Int32) (D : px_H) (w0 : Int32) : px_p (kX11_count X) 159 3 ([some (.ref 13), none], [.int (w0)], (hp M J R 38 43 nL xs D)) =
    some (some (.int (w0)), (hp M J R 38 43 nL xs D)) := rfl
set_option maxRecDepth 40000 in
theorem eX11_count_43_0 (X : px_X) (M : Nat → Nat → Int32) (J : Nat → Nat → Int64) (R : Nat → Nat → Option Nat) (nL : Nat) (xs : Nat → Int32) (D : px_H) (v1 : Int32) : px_run (px_mk (kX11_count X)) 0 ([some (.ref 13), some (.int (v1))], [], (hp M J R 43 38 nL xs D)) =
    cond (decide (v1 = 0))
    (px_run (px_mk (kX11_count X)) 68 ([some (.ref 13), some (.int (v1))], [], (hp M J R 43 38 nL xs D)))
    (cond (decide (v1 = 1))
    (px_run (px_mk (kX11_count X)) 76 ([some (.ref 13), some (.int (v1))], [], (hp M J R 43 38 nL xs D)))
    (cond (decide (v1 = 2))
    (px_run (px_mk (kX11_count X)) 84 ([some (.ref 13), some (.int (v1))], [], (hp M J R 43 38 nL xs D)))
    (cond (decide (v1 = 3))
    (px_run (px_mk (kX11_count X)) 92 ([some (.ref 13), some (.int (v1))], [], (hp M J R 43 38 nL xs D)))
    (cond (decide (v1 = 4))
    (px_run (px_mk (kX11_count X)) 100 ([some (.ref 13), some (.int (v1))], [], (hp M J R 43 38 nL xs D)))
    (cond (decide (v1 = 5))
    (px_run (px_mk (kX11_count X)) 108 ([some (.ref 13), some (.int (v1))], [], (hp M J R 43 38 nL xs D)))
    (cond (decide (v1 = 6))
    (px_run (px_mk (kX11_count X)) 116 ([some (.ref 13), some (.int (v1))], [], (hp M J R 43 38 nL xs D)))
    (cond (decide (v1 = 7))
    (px_run (px_mk (kX11_count X)) 124 ([some (.ref 13), some (.int (v1))], [], (hp M J R 43 38 nL xs D)))
    (cond (decide (v1 = 8))
    (px_run (px_mk (kX11_count X)) 132 ([some (.ref 13), some (.int (v1))], [], (hp M J R 43 38 nL xs D)))
    (cond (decide (v1 = 9))
    (px_run (px_mk (kX11_count X)) 143 ([some (.ref 13), some (.int (v1))], [], (hp M J R 43 38 nL xs D)))
    (cond (decide (v1 = 10))
    (px_run (px_mk (kX11_count X)) 151 ([some (.ref 13), some (.int (v1))], [], (hp M J R 43 38 nL xs D)))
    (cond (decide (v1 = 11))
    (px_run (px_mk (kX11_count X)) 159 ([some (.ref 13), some (.int (v1))], [], (hp M J R 43 38 nL xs D)))
    (cond (decide (v1 = 12))
    (px_run (px_mk (kX11_count X)) 167 ([some (.ref 13), some (.int (v1))], [], (hp M J R 43 38 nL xs D)))
    (px_run (px_mk (kX11_count X)) 175 ([some (.ref 13), some (.int (v1))], [], (hp M J R 43 38 nL xs D))))))))))))))) := (px_run_eq _ _ _).trans rfl
set_option maxRecDepth 40000 in
theorem eX11_count_43_175 (X : px_X) (M : Nat → Nat → Int32) (J : Nat → Nat → Int64) (R : Nat → Nat → Option Nat) (nL : Nat) (xs : Nat → Int32) (D : px_H) (o0 : Option Value) (o1 : Option Value) : px_run (px_mk (kX11_count X)) 175 ([o0, o1], [], (hp M J R 43 38 nL xs D)) =
    some (some (.int ((-2))), (hp M J R 43 38 nL xs D)) := (px_run_eq _ _ _).trans rfl
set_option maxRecDepth 40000 in
theorem eX11_count_43_167 (X : px_X) (M : Nat → Nat → Int32) (J : Nat → Nat → Int64) (R : Nat → Nat → Option Nat) (nL : Nat) (xs : Nat → Int32) (D : px_H) (o1 : Option Value) : px_run (px_mk (kX11_count X)) 167 ([some (.ref 13), o1], [], (hp M J R 43 38 nL xs D)) =
    px_bd (X 88 [.ref 14] (hp M J R 43 38 nL xs D))
    (fun v G1 => px_p (kX11_count X) 167 3 ([some (.ref 13), none], px_psh v [], G1)) := (px_run_eq _ _ _).trans rfl
set_option maxRecDepth 40000 in
theorem eX11_count_43_159 (X : px_X) (M : Nat → Nat → Int32) (J : Nat → Nat → Int64) (R : Nat → Nat → Option Nat) (nL : Nat) (xs : Nat → Int32) (D : px_H) (o1 : Option Value) : px_run (px_mk (kX11_count X)) 159 ([some (.ref 13), o1], [], (hp M J R 43 38 nL xs D)) =
    px_bd (X 113 [.ref 28] (hp M J R 43 38 nL xs D))
    (fun v G1 => px_p (kX11_count X) 159 3 ([some (.ref 13), none], px_psh v [], G1)) := (px_run_eq _ _ _).trans rfl
set_option maxRecDepth 40000 in
theorem eX11_count_43_151 (X : px_X) (M : Nat → Nat → Int32) (J : Nat → Nat → Int64) (R : Nat → Nat → Option Nat) (nL : Nat) (xs : Nat → Int32) (D : px_H) (o1 : Option Value) : px_run (px_mk (kX11_count X)) 151 ([some (.ref 13), o1], [], (hp M J R 43 38 nL xs D)) =
    some (some (.int (M 51 1)), (hp M J R 43 38 nL xs D)) := (px_run_eq _ _ _).trans rfl
set_option maxRecDepth 40000 in
theorem eX11_count_43_143 (X : px_X) (M : Nat → Nat → Int32) (J : Nat → Nat → Int64) (R : Nat → Nat → Option Nat) (nL : Nat) (xs : Nat → Int32) (D : px_H) (o1 : Option Value) : px_run (px_mk (kX11_count X)) 143 ([some (.ref 13), o1], [], (hp M J R 43 38 nL xs D)) =
    some (some (.int (M 51 0)), (hp M J R 43 38 nL xs D)) := (px_run_eq _ _ _).trans rfl
set_option maxRecDepth 40000 in
theorem eX11_count_43_132 (X : px_X) (M : Nat → Nat → Int32) (J : Nat → Nat → Int64) (R : Nat → Nat → Option Nat) (nL : Nat) (xs : Nat → Int32) (D : px_H) (o1 : Option Value) : px_run (px_mk (kX11_count X)) 132 ([some (.ref 13), o1], [], (hp M J R 43 38 nL xs D)) =
    some (some (.int (M 43 0)), (hp M J R 43 38 nL xs D)) := (px_run_eq _ _ _).trans rfl
set_option maxRecDepth 40000 in
theorem eX11_count_43_124 (X : px_X) (M : Nat → Nat → Int32) (J : Nat → Nat → Int64) (R : Nat → Nat → Option Nat) (nL : Nat) (xs : Nat → Int32) (D : px_H) (o1 : Option Value) : px_run (px_mk (kX11_count X)) 124 ([some (.ref 13), o1], [], (hp M J R 43 38 nL xs D)) =
    some (some (.int (M 37 2)), (hp M J R 43 38 nL xs D)) := (px_run_eq _ _ _).trans rfl
set_option maxRecDepth 40000 in
theorem eX11_count_43_116 (X : px_X) (M : Nat → Nat → Int32) (J : Nat → Nat → Int64) (R : Nat → Nat → Option Nat) (nL : Nat) (xs : Nat → Int32) (D : px_H) (o1 : Option Value) : px_run (px_mk (kX11_count X)) 116 ([some (.ref 13), o1], [], (hp M J R 43 38 nL xs D)) =
    some (some (.int (M 32 2)), (hp M J R 43 38 nL xs D)) := (px_run_eq _ _ _).trans rfl
set_option maxRecDepth 40000 in
theorem eX11_count_43_108 (X : px_X) (M : Nat → Nat → Int32) (J : Nat → Nat → Int64) (R : Nat → Nat → Option Nat) (nL : Nat) (xs : Nat → Int32) (D : px_H) (o1 : Option Value) : px_run (px_mk (kX11_count X)) 108 ([some (.ref 13), o1], [], (hp M J R 43 38 nL xs D)) =
    some (some (.int (M 32 1)), (hp M J R 43 38 nL xs D)) := (px_run_eq _ _ _).trans rfl
set_option maxRecDepth 40000 in
theorem eX11_count_43_100 (X : px_X) (M : Nat → Nat → Int32) (J : Nat → Nat → Int64) (R : Nat → Nat → Option Nat) (nL : Nat) (xs : Nat → Int32) (D : px_H) (o1 : Option Value) : px_run (px_mk (kX11_count X)) 100 ([some (.ref 13), o1], [], (hp M J R 43 38 nL xs D)) =
    some (some (.int (M 32 0)), (hp M J R 43 38 nL xs D)) := (px_run_eq _ _ _).trans rfl
set_option maxRecDepth 40000 in
theorem eX11_count_43_92 (X : px_X) (M : Nat → Nat → Int32) (J : Nat → Nat → Int64) (R : Nat → Nat → Option Nat) (nL : Nat) (xs : Nat → Int32) (D : px_H) (o1 : Option Value) : px_run (px_mk (kX11_count X)) 92 ([some (.ref 13), o1], [], (hp M J R 43 38 nL xs D)) =
    some (some (.int (M 28 1)), (hp M J R 43 38 nL xs D)) := (px_run_eq _ _ _).trans rfl
set_option maxRecDepth 40000 in
theorem eX11_count_43_84 (X : px_X) (M : Nat → Nat → Int32) (J : Nat → Nat → Int64) (R : Nat → Nat → Option Nat) (nL : Nat) (xs : Nat → Int32) (D : px_H) (o1 : Option Value) : px_run (px_mk (kX11_count X)) 84 ([some (.ref 13), o1], [], (hp M J R 43 38 nL xs D)) =
    some (some (.int (M 28 0)), (hp M J R 43 38 nL xs D)) := (px_run_eq _ _ _).trans rfl
set_option maxRecDepth 40000 in
theorem eX11_count_43_76 (X : px_X) (M : Nat → Nat → Int32) (J : Nat → Nat → Int64) (R : Nat → Nat → Option Nat) (nL : Nat) (xs : Nat → Int32) (D : px_H) (o1 : Option Value) : px_run (px_mk (kX11_count X)) 76 ([some (.ref 13), o1], [], (hp M J R 43 38 nL xs D)) =
    some (some (.int (M 14 1)), (hp M J R 43 38 nL xs D)) := (px_run_eq _ _ _).trans rfl
set_option maxRecDepth 40000 in
theorem eX11_count_43_68 (X : px_X) (M : Nat → Nat → Int32) (J : Nat → Nat → Int64) (R : Nat → Nat → Option Nat) (nL : Nat) (xs : Nat → Int32) (D : px_H) (o1 : Option Value) : px_run (px_mk (kX11_count X)) 68 ([some (.ref 13), o1], [], (hp M J R 43 38 nL xs D)) =
    some (some (.int (M 14 0)), (hp M J R 43 38 nL xs D)) := (px_run_eq _ _ _).trans rfl
set_option maxRecDepth 40000 in
theorem eX11_count_43_167_3 (X : px_X) (M : Nat → Nat → Int32) (J : Nat → Nat → Int64) (R : Nat → Nat → Option Nat) (nL : Nat) (xs : Nat → Int32) (D : px_H) (w0 : Int32) : px_p (kX11_count X) 167 3 ([some (.ref 13), none], [.int (w0)], (hp M J R 43 38 nL xs D)) =
    some (some (.int (w0)), (hp M J R 43 38 nL xs D)) := rfl
set_option maxRecDepth 40000 in
theorem eX11_count_43_159_3 (X : px_X) (M : Nat → Nat → Int32) (J : Nat → Nat → Int64) (R : Nat → Nat → Option Nat) (nL : Nat) (xs : Nat → Int32) (D : px_H) (w0 : Int32) : px_p (kX11_count X) 159 3 ([some (.ref 13), none], [.int (w0)], (hp M J R 43 38 nL xs D)) =
    some (some (.int (w0)), (hp M J R 43 38 nL xs D)) := rfl
set_option maxRecDepth 40000 in
theorem eX11_sheet_0 (X : px_X) (M : Nat → Nat → Int32) (J : Nat → Nat → Int64) (R : Nat → Nat → Option Nat) (c e : Nat) (nL : Nat) (xs : Nat → Int32) (D : px_H) (v1 : Int32) (v2 : Int32) (v3 : Int32) : px_run (px_mk (kX11_sheet X)) 0 ([some (.ref 13), some (.int (v1)), some (.int (v2)), some (.int (v3))], [], (hp M J R c e nL xs D)) =
    px_bd (X 71 [.ref 59, .int (v1), .int (v2), .int (v3)] (hp M J R c e nL xs D))
    (fun v G1 => px_p (kX11_sheet X) 0 6 ([some (.ref 13), some (.int (v1)), some (.int (v2)), some (.int (v3))], px_psh v [], G1)) := (px_run_eq _ _ _).trans rfl
set_option maxRecDepth 40000 in
theorem eX11_sheet_0_6 (X : px_X) (M : Nat → Nat → Int32) (J : Nat → Nat → Int64) (R : Nat → Nat → Option Nat) (c e : Nat) (nL : Nat) (xs : Nat → Int32) (D : px_H) (v1 : Int32) (v2 : Int32) (v3 : Int32) (w0 : Int32) : px_p (kX11_sheet X) 0 6 ([some (.ref 13), some (.int (v1)), some (.int (v2)), some (.int (v3))], [.int (w0)], (hp M J R c e nL xs D)) =
    some (some (.int (w0)), (hp M J R c e nL xs D)) := rfl
set_option maxRecDepth 40000 in
theorem eX11_cell_0 (X : px_X) (M : Nat → Nat → Int32) (J : Nat → Nat → Int64) (R : Nat → Nat → Option Nat) (c e : Nat) (nL : Nat) (xs : Nat → Int32) (D : px_H) (v1 : Int32) (v2 : Int32) (v3 : Int32) : px_run (px_mk (kX11_cell X)) 0 ([some (.ref 13), some (.int (v1)), some (.int (v2)), some (.int (v3))], [], (hp M J R c e nL xs D)) =
    px_bd (X 72 [.ref 59, .int (v1), .int (v2), .int (v3)] (hp M J R c e nL xs D))
    (fun v G1 => px_p (kX11_cell X) 0 6 ([some (.ref 13), some (.int (v1)), some (.int (v2)), some (.int (v3))], px_psh v [], G1)) := (px_run_eq _ _ _).trans rfl
set_option maxRecDepth 40000 in
theorem eX11_cell_0_6 (X : px_X) (M : Nat → Nat → Int32) (J : Nat → Nat → Int64) (R : Nat → Nat → Option Nat) (c e : Nat) (nL : Nat) (xs : Nat → Int32) (D : px_H) (v1 : Int32) (v2 : Int32) (v3 : Int32) (w0 : Int32) : px_p (kX11_cell X) 0 6 ([some (.ref 13), some (.int (v1)), some (.int (v2)), some (.int (v3))], [.int (w0)], (hp M J R c e nL xs D)) =
    some (some (.int (w0)), (hp M J R c e nL xs D)) := rfl
set_option maxRecDepth 40000 in
theorem eX11_none_0 (X : px_X) (M : Nat → Nat → Int32) (J : Nat → Nat → Int64) (R : Nat → Nat → Option Nat) (c e : Nat) (nL : Nat) (xs : Nat → Int32) (D : px_H) (v1 : Int32) (v2 : Int32) : px_run (px_mk (kX11_none X)) 0 ([some (.ref 13), some (.int (v1)), some (.int (v2))], [], (hp M J R c e nL xs D)) =
    px_bd (X 74 [.ref 59, .int (v1), .int (v2)] (hp M J R c e nL xs D))
    (fun v G1 => px_p (kX11_none X) 0 5 ([some (.ref 13), some (.int (v1)), some (.int (v2))], px_psh v [], G1)) := (px_run_eq _ _ _).trans rfl
set_option maxRecDepth 40000 in
theorem eX11_none_0_5 (X : px_X) (M : Nat → Nat → Int32) (J : Nat → Nat → Int64) (R : Nat → Nat → Option Nat) (c e : Nat) (nL : Nat) (xs : Nat → Int32) (D : px_H) (v1 : Int32) (v2 : Int32) (w0 : Int32) : px_p (kX11_none X) 0 5 ([some (.ref 13), some (.int (v1)), some (.int (v2))], [.int (w0)], (hp M J R c e nL xs D)) =
    some (some (.int (w0)), (hp M J R c e nL xs D)) := rfl
set_option maxRecDepth 40000 in
theorem eX11_taken_0 (X : px_X) (M : Nat → Nat → Int32) (J : Nat → Nat → Int64) (R : Nat → Nat → Option Nat) (c e : Nat) (nL : Nat) (xs : Nat → Int32) (D : px_H) (v1 : Int32) (v2 : Int32) : px_run (px_mk (kX11_taken X)) 0 ([some (.ref 13), some (.int (v1)), some (.int (v2)), none], [], (hp M J R c e nL xs D)) =
    cond (decide (v2 < 0))
    (px_run (px_mk (kX11_taken X)) 10 ([some (.ref 13), some (.int (v1)), some (.int (v2)), none], [], (hp M J R c e nL xs D)))
    (cond (decide (v2 < 6))
    (px_run (px_mk (kX11_taken X)) 13 ([some (.ref 13), some (.int (v1)), some (.int (v2)), none], [], (hp M J R c e nL xs D)))
    (px_run (px_mk (kX11_taken X)) 10 ([some (.ref 13), some (.int (v1)), some (.int (v2)), none], [], (hp M J R c e nL xs D)))) := (px_run_eq _ _ _).trans rfl
set_option maxRecDepth 40000 in
theorem eX11_taken_10 (X : px_X) (M : Nat → Nat → Int32) (J : Nat → Nat → Int64) (R : Nat → Nat → Option Nat) (c e : Nat) (nL : Nat) (xs : Nat → Int32) (D : px_H) (o0 : Option Value) (o1 : Option Value) (o2 : Option Value) (o3 : Option Value) : px_run (px_mk (kX11_taken X)) 10 ([o0, o1, o2, o3], [], (hp M J R c e nL xs D)) =
    some (some (.int ((-2))), (hp M J R c e nL xs D)) := (px_run_eq _ _ _).trans rfl
set_option maxRecDepth 40000 in
theorem eX11_taken_13 (X : px_X) (M : Nat → Nat → Int32) (J : Nat → Nat → Int64) (R : Nat → Nat → Option Nat) (c e : Nat) (nL : Nat) (xs : Nat → Int32) (D : px_H) (v1 : Int32) (v2 : Int32) (o3 : Option Value) : px_run (px_mk (kX11_taken X)) 13 ([some (.ref 13), some (.int (v1)), some (.int (v2)), o3], [], (hp M J R c e nL xs D)) =
    px_bd (X 111 [.ref 28, .int (v1)] (hp M J R c e nL xs D))
    (fun v G1 => px_p (kX11_taken X) 13 4 ([some (.ref 13), some (.int (v1)), some (.int (v2)), none], px_psh v [], G1)) := (px_run_eq _ _ _).trans rfl
set_option maxRecDepth 40000 in
theorem eX11_taken_13_4 (X : px_X) (M : Nat → Nat → Int32) (J : Nat → Nat → Int64) (R : Nat → Nat → Option Nat) (c e : Nat) (nL : Nat) (xs : Nat → Int32) (D : px_H) (v1 : Int32) (v2 : Int32) (g0 : Nat) : px_p (kX11_taken X) 13 4 ([some (.ref 13), some (.int (v1)), some (.int (v2)), none], [.ref (g0)], (hp M J R c e nL xs D)) =
    px_run (px_mk (kX11_taken X)) 29 ([some (.ref 13), some (.int (v1)), some (.int (v2)), some (.ref (g0))], [], (hp M J R c e nL xs D)) := rfl
set_option maxRecDepth 40000 in
theorem eX11_taken_13_4_b (X : px_X) (M : Nat → Nat → Int32) (J : Nat → Nat → Int64) (R : Nat → Nat → Option Nat) (c e : Nat) (nL : Nat) (xs : Nat → Int32) (D : px_H) (v1 : Int32) (v2 : Int32) : px_p (kX11_taken X) 13 4 ([some (.ref 13), some (.int (v1)), some (.int (v2)), none], [.null], (hp M J R c e nL xs D)) =
    some (some (.int ((-11))), (hp M J R c e nL xs D)) := rfl
set_option maxRecDepth 40000 in
theorem eX11_taken_29 (X : px_X) (M : Nat → Nat → Int32) (J : Nat → Nat → Int64) (R : Nat → Nat → Option Nat) (c e : Nat) (nL : Nat) (xs : Nat → Int32) (D : px_H) (o0 : Option Value) (o1 : Option Value) (v2 : Int32) (f3 : Nat) : px_run (px_mk (kX11_taken X)) 29 ([o0, o1, some (.int (v2)), some (.ref (f3))], [], (hp M J R c e nL xs D)) =
    px_p (kX11_taken X) 29 2 ([none, none, some (.int (v2)), some (.ref (f3))], [.int (v2), .ref (f3)], (hp M J R c e nL xs D)) := (px_run_eq _ _ _).trans rfl
set_option maxRecDepth 40000 in
theorem eX11_taken_29_2 (X : px_X) (G : px_H) (v2 : Int32) (f3 : Nat) (g0 : Nat) (w1 : Int32) : px_p (kX11_taken X) 29 2 ([none, none, some (.int (v2)), some (.ref (f3))], [.int (w1), .ref (g0)], G) =
    cond (px_isc G (g0) 2)
    (px_bd (X 24 [.ref (g0), .int (w1)] G)
    (fun v G1 => px_p (kX11_taken X) 29 3 ([none, none, some (.int (v2)), some (.ref (f3))], px_psh v [], G1))) none := px_scallV rfl rfl rfl rfl
set_option maxRecDepth 40000 in
theorem eX11_taken_29_3 (X : px_X) (M : Nat → Nat → Int32) (J : Nat → Nat → Int64) (R : Nat → Nat → Option Nat) (c e : Nat) (nL : Nat) (xs : Nat → Int32) (D : px_H) (v2 : Int32) (f3 : Nat) (w0 : Int32) : px_p (kX11_taken X) 29 3 ([none, none, some (.int (v2)), some (.ref (f3))], [.int (w0)], (hp M J R c e nL xs D)) =
    cond (decide (w0 = 0))
    (px_run (px_mk (kX11_taken X)) 44 ([none, none, some (.int (v2)), some (.ref (f3))], [], (hp M J R c e nL xs D)))
    (px_p (kX11_taken X) 29 5 ([none, none, some (.int (v2)), some (.ref (f3))], [.ref (f3)], (hp M J R c e nL xs D))) := rfl
set_option maxRecDepth 40000 in
theorem eX11_taken_44 (X : px_X) (M : Nat → Nat → Int32) (J : Nat → Nat → Int64) (R : Nat → Nat → Option Nat) (c e : Nat) (nL : Nat) (xs : Nat → Int32) (D : px_H) (o0 : Option Value) (o1 : Option Value) (o2 : Option Value) (o3 : Option Value) : px_run (px_mk (kX11_taken X)) 44 ([o0, o1, o2, o3], [], (hp M J R c e nL xs D)) =
    px_run (px_mk (kX11_taken X)) 46 ([none, none, none, none], [.int ((-13))], (hp M J R c e nL xs D)) := (px_run_eq _ _ _).trans rfl
set_option maxRecDepth 40000 in
theorem eX11_taken_29_5 (X : px_X) (G : px_H) (v2 : Int32) (f3 : Nat) (g0 : Nat) : px_p (kX11_taken X) 29 5 ([none, none, some (.int (v2)), some (.ref (f3))], [.ref (g0)], G) =
    px_vb (px_gf G (g0) 2 1) (fun v => px_p (kX11_taken X) 29 6 ([none, none, some (.int (v2)), some (.ref (f3))], v :: [], G)) := px_sgetf
set_option maxRecDepth 40000 in
theorem eX11_taken_46 (X : px_X) (M : Nat → Nat → Int32) (J : Nat → Nat → Int64) (R : Nat → Nat → Option Nat) (c e : Nat) (nL : Nat) (xs : Nat → Int32) (D : px_H) (o0 : Option Value) (o1 : Option Value) (o2 : Option Value) (o3 : Option Value) (w0 : Int32) : px_run (px_mk (kX11_taken X)) 46 ([o0, o1, o2, o3], [.int (w0)], (hp M J R c e nL xs D)) =
    some (some (.int (w0)), (hp M J R c e nL xs D)) := (px_run_eq _ _ _).trans rfl
set_option maxRecDepth 40000 in
theorem eX11_taken_29_6 (X : px_X) (M : Nat → Nat → Int32) (J : Nat → Nat → Int64) (R : Nat → Nat → Option Nat) (c e : Nat) (nL : Nat) (xs : Nat → Int32) (D : px_H) (v2 : Int32) (f3 : Nat) (w0 : Int32) : px_p (kX11_taken X) 29 6 ([none, none, some (.int (v2)), some (.ref (f3))], [.int (w0)], (hp M J R c e nL xs D)) =
    px_run (px_mk (kX11_taken X)) 46 ([none, none, some (.int (v2)), some (.ref (f3))], [.int (w0)], (hp M J R c e nL xs D)) := rfl
