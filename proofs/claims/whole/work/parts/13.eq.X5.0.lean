/-! block equations over the fixed layout (written by wip/whole/seg.py) -/
set_option maxRecDepth 40000 in
theorem eX5_append_38_0 (X : px_X) (M : Nat → Nat → Int32) (J : Nat → Nat → Int64) (R : Nat → Nat → Option Nat) (nL : Nat) (xs : Nat → Int32) (D : px_H) (v1 : Int32) (v2 : Int64) : px_run (px_mk (kX5_append X)) 0 ([some (.ref 37), some (.int (v1)), some (.long (v2)), none, none], [], (hp M J R 38 43 nL xs D)) =
    cond (decide (v1 < 1))
    (px_run (px_mk (kX5_append X)) 11 ([some (.ref 37), some (.int (v1)), some (.long (v2)), none, none], [], (hp M J R 38 43 nL xs D)))
    (cond (decide (v1 ≤ 8))
    (px_run (px_mk (kX5_append X)) 14 ([some (.ref 37), some (.int (v1)), some (.long (v2)), none, none], [], (hp M J R 38 43 nL xs D)))
    (px_run (px_mk (kX5_append X)) 11 ([some (.ref 37), some (.int (v1)), some (.long (v2)), none, none], [], (hp M J R 38 43 nL xs D)))) := (px_run_eq _ _ _).trans rfl
set_option maxRecDepth 40000 in
theorem eX5_append_38_11 (X : px_X) (M : Nat → Nat → Int32) (J : Nat → Nat → Int64) (R : Nat → Nat → Option Nat) (nL : Nat) (xs : Nat → Int32) (D : px_H) (o0 : Option Value) (o1 : Option Value) (o2 : Option Value) (o3 : Option Value) (o4 : Option Value) : px_run (px_mk (kX5_append X)) 11 ([o0, o1, o2, o3, o4], [], (hp M J R 38 43 nL xs D)) =
    some (some (.int ((-2))), (hp M J R 38 43 nL xs D)) := (px_run_eq _ _ _).trans rfl
set_option maxRecDepth 40000 in
theorem eX5_append_38_14 (X : px_X) (M : Nat → Nat → Int32) (J : Nat → Nat → Int64) (R : Nat → Nat → Option Nat) (nL : Nat) (xs : Nat → Int32) (D : px_H) (v1 : Int32) (v2 : Int64) (o4 : Option Value) : px_run (px_mk (kX5_append X)) 14 ([some (.ref 37), some (.int (v1)), some (.long (v2)), none, o4], [], (hp M J R 38 43 nL xs D)) =
    cond (decide ((M 37 2 + v1) ≤ 160))
    (px_run (px_mk (kX5_append X)) 29 ([some (.ref 37), some (.int (v1)), some (.long (v2)), none, none], [], (hp M J R 38 43 nL xs D)))
    (some (some (.int ((-4))), (hp M J R 38 43 nL xs D))) := (px_run_eq _ _ _).trans rfl
set_option maxRecDepth 40000 in
theorem eX5_append_38_29 (X : px_X) (M : Nat → Nat → Int32) (J : Nat → Nat → Int64) (R : Nat → Nat → Option Nat) (nL : Nat) (xs : Nat → Int32) (D : px_H) (v1 : Int32) (v2 : Int64) (o4 : Option Value) : px_run (px_mk (kX5_append X)) 29 ([some (.ref 37), some (.int (v1)), some (.long (v2)), none, o4], [], (hp M J R 38 43 nL xs D)) =
    px_run (px_mk (kX5_append X)) 32 ([some (.ref 37), some (.int (v1)), some (.long (v2)), none, some (.int (0))], [], (hp M J R 38 43 nL xs D)) := (px_run_eq _ _ _).trans rfl
set_option maxRecDepth 40000 in
theorem eX5_append_38_32 (X : px_X) (M : Nat → Nat → Int32) (J : Nat → Nat → Int64) (R : Nat → Nat → Option Nat) (nL : Nat) (xs : Nat → Int32) (D : px_H) (v1 : Int32) (v2 : Int64) (v4 : Int32) : px_run (px_mk (kX5_append X)) 32 ([some (.ref 37), some (.int (v1)), some (.long (v2)), none, some (.int (v4))], [], (hp M J R 38 43 nL xs D)) =
    cond (decide (v1 ≤ v4))
    (px_run (px_mk (kX5_append X)) 75 ([some (.ref 37), some (.int (v1)), some (.long (v2)), none, some (.int (v4))], [], (hp M J R 38 43 nL xs D)))
    (cond (px_inb (M 37 2) 160)
    (px_run (px_mk (kX5_append X)) 32 ([some (.ref 37), some (.int (v1)), some (.long (v2)), none, some (.int ((v4 + 1)))], [], (hp (px_uR (px_uR M 48 (upd (M 48) (Int32.toNatClampNeg (M 37 2)) ((Int64.toInt32 ((Int64.toUInt64 (v2) >>> (Int64.toUInt64 (Int32.toInt64 ((8 * v4))) &&& Int64.toUInt64 63)).toInt64 &&& 255))))) 37 (upd (M 37) 2 ((M 37 2 + 1)))) J R 38 43 nL xs D))) none) := (px_run_eq _ _ _).trans rfl
set_option maxRecDepth 40000 in
theorem eX5_append_38_75 (X : px_X) (M : Nat → Nat → Int32) (J : Nat → Nat → Int64) (R : Nat → Nat → Option Nat) (nL : Nat) (xs : Nat → Int32) (D : px_H) (o1 : Option Value) (o2 : Option Value) (o3 : Option Value) (o4 : Option Value) : px_run (px_mk (kX5_append X)) 75 ([some (.ref 37), o1, o2, o3, o4], [], (hp M J R 38 43 nL xs D)) =
    some (some (.int (M 37 2)), (hp M J R 38 43 nL xs D)) := (px_run_eq _ _ _).trans rfl
set_option maxRecDepth 40000 in
theorem eX5_append_43_0 (X : px_X) (M : Nat → Nat → Int32) (J : Nat → Nat → Int64) (R : Nat → Nat → Option Nat) (nL : Nat) (xs : Nat → Int32) (D : px_H) (v1 : Int32) (v2 : Int64) : px_run (px_mk (kX5_append X)) 0 ([some (.ref 37), some (.int (v1)), some (.long (v2)), none, none], [], (hp M J R 43 38 nL xs D)) =
    cond (decide (v1 < 1))
    (px_run (px_mk (kX5_append X)) 11 ([some (.ref 37), some (.int (v1)), some (.long (v2)), none, none], [], (hp M J R 43 38 nL xs D)))
    (cond (decide (v1 ≤ 8))
    (px_run (px_mk (kX5_append X)) 14 ([some (.ref 37), some (.int (v1)), some (.long (v2)), none, none], [], (hp M J R 43 38 nL xs D)))
    (px_run (px_mk (kX5_append X)) 11 ([some (.ref 37), some (.int (v1)), some (.long (v2)), none, none], [], (hp M J R 43 38 nL xs D)))) := (px_run_eq _ _ _).trans rfl
set_option maxRecDepth 40000 in
theorem eX5_append_43_11 (X : px_X) (M : Nat → Nat → Int32) (J : Nat → Nat → Int64) (R : Nat → Nat → Option Nat) (nL : Nat) (xs : Nat → Int32) (D : px_H) (o0 : Option Value) (o1 : Option Value) (o2 : Option Value) (o3 : Option Value) (o4 : Option Value) : px_run (px_mk (kX5_append X)) 11 ([o0, o1, o2, o3, o4], [], (hp M J R 43 38 nL xs D)) =
    some (some (.int ((-2))), (hp M J R 43 38 nL xs D)) := (px_run_eq _ _ _).trans rfl
set_option maxRecDepth 40000 in
theorem eX5_append_43_14 (X : px_X) (M : Nat → Nat → Int32) (J : Nat → Nat → Int64) (R : Nat → Nat → Option Nat) (nL : Nat) (xs : Nat → Int32) (D : px_H) (v1 : Int32) (v2 : Int64) (o4 : Option Value) : px_run (px_mk (kX5_append X)) 14 ([some (.ref 37), some (.int (v1)), some (.long (v2)), none, o4], [], (hp M J R 43 38 nL xs D)) =
    cond (decide ((M 37 2 + v1) ≤ 160))
    (px_run (px_mk (kX5_append X)) 29 ([some (.ref 37), some (.int (v1)), some (.long (v2)), none, none], [], (hp M J R 43 38 nL xs D)))
    (some (some (.int ((-4))), (hp M J R 43 38 nL xs D))) := (px_run_eq _ _ _).trans rfl
set_option maxRecDepth 40000 in
theorem eX5_append_43_29 (X : px_X) (M : Nat → Nat → Int32) (J : Nat → Nat → Int64) (R : Nat → Nat → Option Nat) (nL : Nat) (xs : Nat → Int32) (D : px_H) (v1 : Int32) (v2 : Int64) (o4 : Option Value) : px_run (px_mk (kX5_append X)) 29 ([some (.ref 37), some (.int (v1)), some (.long (v2)), none, o4], [], (hp M J R 43 38 nL xs D)) =
    px_run (px_mk (kX5_append X)) 32 ([some (.ref 37), some (.int (v1)), some (.long (v2)), none, some (.int (0))], [], (hp M J R 43 38 nL xs D)) := (px_run_eq _ _ _).trans rfl
set_option maxRecDepth 40000 in
theorem eX5_append_43_32 (X : px_X) (M : Nat → Nat → Int32) (J : Nat → Nat → Int64) (R : Nat → Nat → Option Nat) (nL : Nat) (xs : Nat → Int32) (D : px_H) (v1 : Int32) (v2 : Int64) (v4 : Int32) : px_run (px_mk (kX5_append X)) 32 ([some (.ref 37), some (.int (v1)), some (.long (v2)), none, some (.int (v4))], [], (hp M J R 43 38 nL xs D)) =
    cond (decide (v1 ≤ v4))
    (px_run (px_mk (kX5_append X)) 75 ([some (.ref 37), some (.int (v1)), some (.long (v2)), none, some (.int (v4))], [], (hp M J R 43 38 nL xs D)))
    (cond (px_inb (M 37 2) 160)
    (px_run (px_mk (kX5_append X)) 32 ([some (.ref 37), some (.int (v1)), some (.long (v2)), none, some (.int ((v4 + 1)))], [], (hp (px_uR (px_uR M 48 (upd (M 48) (Int32.toNatClampNeg (M 37 2)) ((Int64.toInt32 ((Int64.toUInt64 (v2) >>> (Int64.toUInt64 (Int32.toInt64 ((8 * v4))) &&& Int64.toUInt64 63)).toInt64 &&& 255))))) 37 (upd (M 37) 2 ((M 37 2 + 1)))) J R 43 38 nL xs D))) none) := (px_run_eq _ _ _).trans rfl
set_option maxRecDepth 40000 in
theorem eX5_append_43_75 (X : px_X) (M : Nat → Nat → Int32) (J : Nat → Nat → Int64) (R : Nat → Nat → Option Nat) (nL : Nat) (xs : Nat → Int32) (D : px_H) (o1 : Option Value) (o2 : Option Value) (o3 : Option Value) (o4 : Option Value) : px_run (px_mk (kX5_append X)) 75 ([some (.ref 37), o1, o2, o3, o4], [], (hp M J R 43 38 nL xs D)) =
    some (some (.int (M 37 2)), (hp M J R 43 38 nL xs D)) := (px_run_eq _ _ _).trans rfl
set_option maxRecDepth 40000 in
theorem eX5_readAll_38_0 (X : px_X) (M : Nat → Nat → Int32) (J : Nat → Nat → Int64) (R : Nat → Nat → Option Nat) (nL : Nat) (xs : Nat → Int32) (D : px_H)  : px_run (px_mk (kX5_readAll X)) 0 ([some (.ref 37), none, none], [], (hp M J R 38 43 nL xs D)) =
    px_bd (X 39 [.ref 43] (hp (px_uR M 37 (upd (M 37) 5 (0))) J R 38 43 nL xs D))
    (fun v G1 => px_p (kX5_readAll X) 0 6 ([some (.ref 37), none, none], px_psh v [], G1)) := (px_run_eq _ _ _).trans rfl
set_option maxRecDepth 40000 in
theorem eX5_readAll_38_0_6 (X : px_X) (M : Nat → Nat → Int32) (J : Nat → Nat → Int64) (R : Nat → Nat → Option Nat) (nL : Nat) (xs : Nat → Int32) (D : px_H)  : px_p (kX5_readAll X) 0 6 ([some (.ref 37), none, none], [], (hp M J R 38 43 nL xs D)) =
    px_bd (X 61 [.ref 37] (hp M J R 38 43 nL xs D))
    (fun v G1 => px_p (kX5_readAll X) 0 8 ([some (.ref 37), none, none], px_psh v [], G1)) := rfl
set_option maxRecDepth 40000 in
theorem eX5_readAll_38_0_8 (X : px_X) (M : Nat → Nat → Int32) (J : Nat → Nat → Int64) (R : Nat → Nat → Option Nat) (nL : Nat) (xs : Nat → Int32) (D : px_H)  : px_p (kX5_readAll X) 0 8 ([some (.ref 37), none, none], [], (hp M J R 38 43 nL xs D)) =
    px_bd (X 51 [.ref 37] (hp M J R 38 43 nL xs D))
    (fun v G1 => px_p (kX5_readAll X) 0 10 ([some (.ref 37), none, none], px_psh v [], G1)) := rfl
set_option maxRecDepth 40000 in
theorem eX5_readAll_38_0_10 (X : px_X) (M : Nat → Nat → Int32) (J : Nat → Nat → Int64) (R : Nat → Nat → Option Nat) (nL : Nat) (xs : Nat → Int32) (D : px_H) (w0 : Int32) : px_p (kX5_readAll X) 0 10 ([some (.ref 37), none, none], [.int (w0)], (hp M J R 38 43 nL xs D)) =
    cond (decide (¬ w0 = 0))
    (px_run (px_mk (kX5_readAll X)) 38 ([some (.ref 37), some (.int (w0)), none], [], (hp (px_uR M 37 (upd (M 37) 2 (0))) J R 38 43 nL xs D)))
    (some (some (.int (((-100) - M 37 4))), (hp (px_uR M 37 (upd (M 37) 2 (0))) J R 38 43 nL xs D))) := rfl
set_option maxRecDepth 40000 in
theorem eX5_readAll_38_38 (X : px_X) (M : Nat → Nat → Int32) (J : Nat → Nat → Int64) (R : Nat → Nat → Option Nat) (nL : Nat) (xs : Nat → Int32) (D : px_H) (o1 : Option Value) (o2 : Option Value) : px_run (px_mk (kX5_readAll X)) 38 ([some (.ref 37), o1, o2], [], (hp M J R 38 43 nL xs D)) =
    some (some (.int (M 43 0)), (hp M J R 43 38 nL xs D)) := (px_run_eq _ _ _).trans rfl
set_option maxRecDepth 40000 in
theorem eX5_readAll_43_0 (X : px_X) (M : Nat → Nat → Int32) (J : Nat → Nat → Int64) (R : Nat → Nat → Option Nat) (nL : Nat) (xs : Nat → Int32) (D : px_H)  : px_run (px_mk (kX5_readAll X)) 0 ([some (.ref 37), none, none], [], (hp M J R 43 38 nL xs D)) =
    px_bd (X 39 [.ref 38] (hp (px_uR M 37 (upd (M 37) 5 (0))) J R 43 38 nL xs D))
    (fun v G1 => px_p (kX5_readAll X) 0 6 ([some (.ref 37), none, none], px_psh v [], G1)) := (px_run_eq _ _ _).trans rfl
set_option maxRecDepth 40000 in
theorem eX5_readAll_43_0_6 (X : px_X) (M : Nat → Nat → Int32) (J : Nat → Nat → Int64) (R : Nat → Nat → Option Nat) (nL : Nat) (xs : Nat → Int32) (D : px_H)  : px_p (kX5_readAll X) 0 6 ([some (.ref 37), none, none], [], (hp M J R 43 38 nL xs D)) =
    px_bd (X 61 [.ref 37] (hp M J R 43 38 nL xs D))
    (fun v G1 => px_p (kX5_readAll X) 0 8 ([some (.ref 37), none, none], px_psh v [], G1)) := rfl
set_option maxRecDepth 40000 in
theorem eX5_readAll_43_0_8 (X : px_X) (M : Nat → Nat → Int32) (J : Nat → Nat → Int64) (R : Nat → Nat → Option Nat) (nL : Nat) (xs : Nat → Int32) (D : px_H)  : px_p (kX5_readAll X) 0 8 ([some (.ref 37), none, none], [], (hp M J R 43 38 nL xs D)) =
    px_bd (X 51 [.ref 37] (hp M J R 43 38 nL xs D))
    (fun v G1 => px_p (kX5_readAll X) 0 10 ([some (.ref 37), none, none], px_psh v [], G1)) := rfl
set_option maxRecDepth 40000 in
theorem eX5_readAll_43_0_10 (X : px_X) (M : Nat → Nat → Int32) (J : Nat → Nat → Int64) (R : Nat → Nat → Option Nat) (nL : Nat) (xs : Nat → Int32) (D : px_H) (w0 : Int32) : px_p (kX5_readAll X) 0 10 ([some (.ref 37), none, none], [.int (w0)], (hp M J R 43 38 nL xs D)) =
    cond (decide (¬ w0 = 0))
    (px_run (px_mk (kX5_readAll X)) 38 ([some (.ref 37), some (.int (w0)), none], [], (hp (px_uR M 37 (upd (M 37) 2 (0))) J R 43 38 nL xs D)))
    (some (some (.int (((-100) - M 37 4))), (hp (px_uR M 37 (upd (M 37) 2 (0))) J R 43 38 nL xs D))) := rfl
set_option maxRecDepth 40000 in
theorem eX5_readAll_43_38 (X : px_X) (M : Nat → Nat → Int32) (J : Nat → Nat → Int64) (R : Nat → Nat → Option Nat) (nL : Nat) (xs : Nat → Int32) (D : px_H) (o1 : Option Value) (o2 : Option Value) : px_run (px_mk (kX5_readAll X)) 38 ([some (.ref 37), o1, o2], [], (hp M J R 43 38 nL xs D)) =
    some (some (.int (M 38 0)), (hp M J R 38 43 nL xs D)) := (px_run_eq _ _ _).trans rfl
set_option maxRecDepth 40000 in
theorem eX5_readBars_38_0 (X : px_X) (M : Nat → Nat → Int32) (J : Nat → Nat → Int64) (R : Nat → Nat → Option Nat) (nL : Nat) (xs : Nat → Int32) (D : px_H)  : px_run (px_mk (kX5_readBars X)) 0 ([some (.ref 37), none], [], (hp M J R 38 43 nL xs D)) =
    px_run (px_mk (kX5_readBars X)) 2 ([some (.ref 37), some (.int (0))], [], (hp M J R 38 43 nL xs D)) := (px_run_eq _ _ _).trans rfl
set_option maxRecDepth 40000 in
theorem eX5_readBars_38_2 (X : px_X) (M : Nat → Nat → Int32) (J : Nat → Nat → Int64) (R : Nat → Nat → Option Nat) (nL : Nat) (xs : Nat → Int32) (D : px_H) (v1 : Int32) : px_run (px_mk (kX5_readBars X)) 2 ([some (.ref 37), some (.int (v1))], [], (hp M J R 38 43 nL xs D)) =
    cond (decide (6 ≤ v1))
    (px_run (px_mk (kX5_readBars X)) 57 ([some (.ref 37), some (.int (v1))], [], (hp M J R 38 43 nL xs D)))
    (cond (decide (¬ M 37 6 = 10))
    (px_run (px_mk (kX5_readBars X)) 57 ([some (.ref 37), some (.int (v1))], [], (hp M J R 38 43 nL xs D)))
    (px_bd (X 61 [.ref 37] (hp M J R 38 43 nL xs D))
    (fun v G1 => px_p (kX5_readBars X) 2 9 ([some (.ref 37), some (.int (v1))], px_psh v [], G1)))) := (px_run_eq _ _ _).trans rfl
set_option maxRecDepth 40000 in
theorem eX5_readBars_38_57 (X : px_X) (M : Nat → Nat → Int32) (J : Nat → Nat → Int64) (R : Nat → Nat → Option Nat) (nL : Nat) (xs : Nat → Int32) (D : px_H) (o1 : Option Value) : px_run (px_mk (kX5_readBars X)) 57 ([some (.ref 37), o1], [], (hp M J R 38 43 nL xs D)) =
    cond (decide (¬ M 37 6 = 0))
    (px_run (px_mk (kX5_readBars X)) 68 ([some (.ref 37), none], [], (hp M J R 38 43 nL xs D)))
    (px_run (px_mk (kX5_readBars X)) 69 ([some (.ref 37), none], [.int (1)], (hp M J R 38 43 nL xs D))) := (px_run_eq _ _ _).trans rfl
set_option maxRecDepth 40000 in
theorem eX5_readBars_38_2_9 (X : px_X) (M : Nat → Nat → Int32) (J : Nat → Nat → Int64) (R : Nat → Nat → Option Nat) (nL : Nat) (xs : Nat → Int32) (D : px_H) (v1 : Int32) : px_p (kX5_readBars X) 2 9 ([some (.ref 37), some (.int (v1))], [], (hp M J R 38 43 nL xs D)) =
    px_bd (X 52 [.ref 37, .int (0)] (hp M J R 38 43 nL xs D))
    (fun v G1 => px_p (kX5_readBars X) 2 12 ([some (.ref 37), some (.int (v1))], px_psh v [], G1)) := rfl
set_option maxRecDepth 40000 in
theorem eX5_readBars_38_68 (X : px_X) (M : Nat → Nat → Int32) (J : Nat → Nat → Int64) (R : Nat → Nat → Option Nat) (nL : Nat) (xs : Nat → Int32) (D : px_H) (o0 : Option Value) (o1 : Option Value) : px_run (px_mk (kX5_readBars X)) 68 ([o0, o1], [], (hp M J R 38 43 nL xs D)) =
    px_run (px_mk (kX5_readBars X)) 69 ([none, none], [.int (0)], (hp M J R 38 43 nL xs D)) := (px_run_eq _ _ _).trans rfl
set_option maxRecDepth 40000 in
theorem eX5_readBars_38_69 (X : px_X) (M : Nat → Nat → Int32) (J : Nat → Nat → Int64) (R : Nat → Nat → Option Nat) (nL : Nat) (xs : Nat → Int32) (D : px_H) (o0 : Option Value) (o1 : Option Value) (w0 : Int32) : px_run (px_mk (kX5_readBars X)) 69 ([o0, o1], [.int (w0)], (hp M J R 38 43 nL xs D)) =
    cond (decide (w0 = 0) || decide (w0 = 1)) (some (some (.int (w0)), (hp M J R 38 43 nL xs D))) none := (px_run_eq _ _ _).trans rfl
set_option maxRecDepth 40000 in
theorem eX5_readBars_38_2_12 (X : px_X) (M : Nat → Nat → Int32) (J : Nat → Nat → Int64) (R : Nat → Nat → Option Nat) (nL : Nat) (xs : Nat → Int32) (D : px_H) (v1 : Int32) (w0 : Int32) : px_p (kX5_readBars X) 2 12 ([some (.ref 37), some (.int (v1))], [.int (w0)], (hp M J R 38 43 nL xs D)) =
    cond (decide (w0 = 0))
    (px_run (px_mk (kX5_readBars X)) 38 ([some (.ref 37), some (.int (v1))], [], (hp M J R 38 43 nL xs D)))
    (cond (decide (M 37 6 = 59))
    (px_run (px_mk (kX5_readBars X)) 40 ([some (.ref 37), some (.int (v1))], [], (hp M J R 38 43 nL xs D)))
    (px_run (px_mk (kX5_readBars X)) 38 ([some (.ref 37), some (.int (v1))], [], (hp M J R 38 43 nL xs D)))) := rfl
set_option maxRecDepth 40000 in
theorem eX5_readBars_38_38 (X : px_X) (M : Nat → Nat → Int32) (J : Nat → Nat → Int64) (R : Nat → Nat → Option Nat) (nL : Nat) (xs : Nat → Int32) (D : px_H) (o0 : Option Value) (o1 : Option Value) : px_run (px_mk (kX5_readBars X)) 38 ([o0, o1], [], (hp M J R 38 43 nL xs D)) =
    some (some (.int (0)), (hp M J R 38 43 nL xs D)) := (px_run_eq _ _ _).trans rfl
set_option maxRecDepth 40000 in
theorem eX5_readBars_38_40 (X : px_X) (M : Nat → Nat → Int32) (J : Nat → Nat → Int64) (R : Nat → Nat → Option Nat) (nL : Nat) (xs : Nat → Int32) (D : px_H) (v1 : Int32) : px_run (px_mk (kX5_readBars X)) 40 ([some (.ref 37), some (.int (v1))], [], (hp M J R 38 43 nL xs D)) =
    px_bd (X 41 [.ref 43] (hp M J R 38 43 nL xs D))
    (fun v G1 => px_p (kX5_readBars X) 40 3 ([some (.ref 37), some (.int (v1))], px_psh v [], G1)) := (px_run_eq _ _ _).trans rfl
set_option maxRecDepth 40000 in
theorem eX5_readBars_38_40_3 (X : px_X) (M : Nat → Nat → Int32) (J : Nat → Nat → Int64) (R : Nat → Nat → Option Nat) (nL : Nat) (xs : Nat → Int32) (D : px_H) (v1 : Int32) : px_p (kX5_readBars X) 40 3 ([some (.ref 37), some (.int (v1))], [], (hp M J R 38 43 nL xs D)) =
    px_bd (X 61 [.ref 37] (hp M J R 38 43 nL xs D))
    (fun v G1 => px_p (kX5_readBars X) 40 5 ([some (.ref 37), some (.int (v1))], px_psh v [], G1)) := rfl
set_option maxRecDepth 40000 in
theorem eX5_readBars_38_40_5 (X : px_X) (M : Nat → Nat → Int32) (J : Nat → Nat → Int64) (R : Nat → Nat → Option Nat) (nL : Nat) (xs : Nat → Int32) (D : px_H) (v1 : Int32) : px_p (kX5_readBars X) 40 5 ([some (.ref 37), some (.int (v1))], [], (hp M J R 38 43 nL xs D)) =
    px_run (px_mk (kX5_readBars X)) 2 ([some (.ref 37), some (.int ((v1 + 1)))], [], (hp M J R 38 43 nL xs D)) := rfl
set_option maxRecDepth 40000 in
theorem eX5_readBars_43_0 (X : px_X) (M : Nat → Nat → Int32) (J : Nat → Nat → Int64) (R : Nat → Nat → Option Nat) (nL : Nat) (xs : Nat → Int32) (D : px_H)  : px_run (px_mk (kX5_readBars X)) 0 ([some (.ref 37), none], [], (hp M J R 43 38 nL xs D)) =
    px_run (px_mk (kX5_readBars X)) 2 ([some (.ref 37), some (.int (0))], [], (hp M J R 43 38 nL xs D)) := (px_run_eq _ _ _).trans rfl
set_option maxRecDepth 40000 in
theorem eX5_readBars_43_2 (X : px_X) (M : Nat → Nat → Int32) (J : Nat → Nat → Int64) (R : Nat → Nat → Option Nat) (nL : Nat) (xs : Nat → Int32) (D : px_H) (v1 : Int32) : px_run (px_mk (kX5_readBars X)) 2 ([some (.ref 37), some (.int (v1))], [], (hp M J R 43 38 nL xs D)) =
    cond (decide (6 ≤ v1))
    (px_run (px_mk (kX5_readBars X)) 57 ([some (.ref 37), some (.int (v1))], [], (hp M J R 43 38 nL xs D)))
    (cond (decide (¬ M 37 6 = 10))
    (px_run (px_mk (kX5_readBars X)) 57 ([some (.ref 37), some (.int (v1))], [], (hp M J R 43 38 nL xs D)))
    (px_bd (X 61 [.ref 37] (hp M J R 43 38 nL xs D))
    (fun v G1 => px_p (kX5_readBars X) 2 9 ([some (.ref 37), some (.int (v1))], px_psh v [], G1)))) := (px_run_eq _ _ _).trans rfl
set_option maxRecDepth 40000 in
theorem eX5_readBars_43_57 (X : px_X) (M : Nat → Nat → Int32) (J : Nat → Nat → Int64) (R : Nat → Nat → Option Nat) (nL : Nat) (xs : Nat → Int32) (D : px_H) (o1 : Option Value) : px_run (px_mk (kX5_readBars X)) 57 ([some (.ref 37), o1], [], (hp M J R 43 38 nL xs D)) =
    cond (decide (¬ M 37 6 = 0))
    (px_run (px_mk (kX5_readBars X)) 68 ([some (.ref 37), none], [], (hp M J R 43 38 nL xs D)))
    (px_run (px_mk (kX5_readBars X)) 69 ([some (.ref 37), none], [.int (1)], (hp M J R 43 38 nL xs D))) := (px_run_eq _ _ _).trans rfl
set_option maxRecDepth 40000 in
theorem eX5_readBars_43_2_9 (X : px_X) (M : Nat → Nat → Int32) (J : Nat → Nat → Int64) (R : Nat → Nat → Option Nat) (nL : Nat) (xs : Nat → Int32) (D : px_H) (v1 : Int32) : px_p (kX5_readBars X) 2 9 ([some (.ref 37), some (.int (v1))], [], (hp M J R 43 38 nL xs D)) =
    px_bd (X 52 [.ref 37, .int (0)] (hp M J R 43 38 nL xs D))
    (fun v G1 => px_p (kX5_readBars X) 2 12 ([some (.ref 37), some (.int (v1))], px_psh v [], G1)) := rfl
set_option maxRecDepth 40000 in
theorem eX5_readBars_43_68 (X : px_X) (M : Nat → Nat → Int32) (J : Nat → Nat → Int64) (R : Nat → Nat → Option Nat) (nL : Nat) (xs : Nat → Int32) (D : px_H) (o0 : Option Value) (o1 : Option Value) : px_run (px_mk (kX5_readBars X)) 68 ([o0, o1], [], (hp M J R 43 38 nL xs D)) =
    px_run (px_mk (kX5_readBars X)) 69 ([none, none], [.int (0)], (hp M J R 43 38 nL xs D)) := (px_run_eq _ _ _).trans rfl
set_option maxRecDepth 40000 in
theorem eX5_readBars_43_69 (X : px_X) (M : Nat → Nat → Int32) (J : Nat → Nat → Int64) (R : Nat → Nat → Option Nat) (nL : Nat) (xs : Nat → Int32) (D : px_H) (o0 : Option Value) (o1 : Option Value) (w0 : Int32) : px_run (px_mk (kX5_readBars X)) 69 ([o0, o1], [.int (w0)], (hp M J R 43 38 nL xs D)) =
    cond (decide (w0 = 0) || decide (w0 = 1)) (some (some (.int (w0)), (hp M J R 43 38 nL xs D))) none := (px_run_eq _ _ _).trans rfl
set_option maxRecDepth 40000 in
theorem eX5_readBars_43_2_12 (X : px_X) (M : Nat → Nat → Int32) (J : Nat → Nat → Int64) (R : Nat → Nat → Option Nat) (nL : Nat) (xs : Nat → Int32) (D : px_H) (v1 : Int32) (w0 : Int32) : px_p (kX5_readBars X) 2 12 ([some (.ref 37), some (.int (v1))], [.int (w0)], (hp M J R 43 38 nL xs D)) =
    cond (decide (w0 = 0))
    (px_run (px_mk (kX5_readBars X)) 38 ([some (.ref 37), some (.int (v1))], [], (hp M J R 43 38 nL xs D)))
    (cond (decide (M 37 6 = 59))
    (px_run (px_mk (kX5_readBars X)) 40 ([some (.ref 37), some (.int (v1))], [], (hp M J R 43 38 nL xs D)))
    (px_run (px_mk (kX5_readBars X)) 38 ([some (.ref 37), some (.int (v1))], [], (hp M J R 43 38 nL xs D)))) := rfl
set_option maxRecDepth 40000 in
theorem eX5_readBars_43_38 (X : px_X) (M : Nat → Nat → Int32) (J : Nat → Nat → Int64) (R : Nat → Nat → Option Nat) (nL : Nat) (xs : Nat → Int32) (D : px_H) (o0 : Option Value) (o1 : Option Value) : px_run (px_mk (kX5_readBars X)) 38 ([o0, o1], [], (hp M J R 43 38 nL xs D)) =
    some (some (.int (0)), (hp M J R 43 38 nL xs D)) := (px_run_eq _ _ _).trans rfl
set_option maxRecDepth 40000 in
theorem eX5_readBars_43_40 (X : px_X) (M : Nat → Nat → Int32) (J : Nat → Nat → Int64) (R : Nat → Nat → Option Nat) (nL : Nat) (xs : Nat → Int32) (D : px_H) (v1 : Int32) : px_run (px_mk (kX5_readBars X)) 40 ([some (.ref 37), some (.int (v1))], [], (hp M J R 43 38 nL xs D)) =
    px_bd (X 41 [.ref 38] (hp M J R 43 38 nL xs D))
    (fun v G1 => px_p (kX5_readBars X) 40 3 ([some (.ref 37), some (.int (v1))], px_psh v [], G1)) := (px_run_eq _ _ _).trans rfl
set_option maxRecDepth 40000 in
theorem eX5_readBars_43_40_3 (X : px_X) (M : Nat → Nat → Int32) (J : Nat → Nat → Int64) (R : Nat → Nat → Option Nat) (nL : Nat) (xs : Nat → Int32) (D : px_H) (v1 : Int32) : px_p (kX5_readBars X) 40 3 ([some (.ref 37), some (.int (v1))], [], (hp M J R 43 38 nL xs D)) =
    px_bd (X 61 [.ref 37] (hp M J R 43 38 nL xs D))
    (fun v G1 => px_p (kX5_readBars X) 40 5 ([some (.ref 37), some (.int (v1))], px_psh v [], G1)) := rfl
set_option maxRecDepth 40000 in
theorem eX5_readBars_43_40_5 (X : px_X) (M : Nat → Nat → Int32) (J : Nat → Nat → Int64) (R : Nat → Nat → Option Nat) (nL : Nat) (xs : Nat → Int32) (D : px_H) (v1 : Int32) : px_p (kX5_readBars X) 40 5 ([some (.ref 37), some (.int (v1))], [], (hp M J R 43 38 nL xs D)) =
    px_run (px_mk (kX5_readBars X)) 2 ([some (.ref 37), some (.int ((v1 + 1)))], [], (hp M J R 43 38 nL xs D)) := rfl
set_option maxRecDepth 40000 in
theorem eX5_readOr_38_0 (X : px_X) (M : Nat → Nat → Int32) (J : Nat → Nat → Int64) (R : Nat → Nat → Option Nat) (nL : Nat) (xs : Nat → Int32) (D : px_H) (v1 : Int32) : px_run (px_mk (kX5_readOr X)) 0 ([some (.ref 37), some (.int (v1)), none, none], [], (hp M J R 38 43 nL xs D)) =
    px_bd (X 53 [.ref 37, .int (v1)] (hp M J R 38 43 nL xs D))
    (fun v G1 => px_p (kX5_readOr X) 0 3 ([some (.ref 37), some (.int (v1)), none, none], px_psh v [], G1)) := (px_run_eq _ _ _).trans rfl
set_option maxRecDepth 40000 in
theorem eX5_readOr_38_0_3 (X : px_X) (M : Nat → Nat → Int32) (J : Nat → Nat → Int64) (R : Nat → Nat → Option Nat) (nL : Nat) (xs : Nat → Int32) (D : px_H) (v1 : Int32) (w0 : Int32) : px_p (kX5_readOr X) 0 3 ([some (.ref 37), some (.int (v1)), none, none], [.int (w0)], (hp M J R 38 43 nL xs D)) =
    px_run (px_mk (kX5_readOr X)) 8 ([some (.ref 37), some (.int (v1)), some (.int (w0)), some (.int (0))], [], (hp M J R 38 43 nL xs D)) := rfl
set_option maxRecDepth 40000 in
theorem eX5_readOr_38_8 (X : px_X) (M : Nat → Nat → Int32) (J : Nat → Nat → Int64) (R : Nat → Nat → Option Nat) (nL : Nat) (xs : Nat → Int32) (D : px_H) (v1 : Int32) (v2 : Int32) (v3 : Int32) : px_run (px_mk (kX5_readOr X)) 8 ([some (.ref 37), some (.int (v1)), some (.int (v2)), some (.int (v3))], [], (hp M J R 38 43 nL xs D)) =
    cond (decide (160 ≤ v3))
    (px_run (px_mk (kX5_readOr X)) 54 ([some (.ref 37), some (.int (v1)), some (.int (v2)), some (.int (v3))], [], (hp M J R 38 43 nL xs D)))
    (cond (decide (v2 = 0))
    (px_run (px_mk (kX5_readOr X)) 54 ([some (.ref 37), some (.int (v1)), some (.int (v2)), some (.int (v3))], [], (hp M J R 38 43 nL xs D)))
    (cond (decide (¬ M 37 6 = 11))
    (px_run (px_mk (kX5_readOr X)) 54 ([some (.ref 37), some (.int (v1)), some (.int (v2)), some (.int (v3))], [], (hp M J R 38 43 nL xs D)))
    (px_bd (X 61 [.ref 37] (hp M J R 38 43 nL xs D))
    (fun v G1 => px_p (kX5_readOr X) 8 11 ([some (.ref 37), some (.int (v1)), some (.int (v2)), some (.int (v3))], px_psh v [], G1))))) := (px_run_eq _ _ _).trans rfl
set_option maxRecDepth 40000 in
theorem eX5_readOr_38_54 (X : px_X) (M : Nat → Nat → Int32) (J : Nat → Nat → Int64) (R : Nat → Nat → Option Nat) (nL : Nat) (xs : Nat → Int32) (D : px_H) (o0 : Option Value) (o1 : Option Value) (v2 : Int32) (o3 : Option Value) : px_run (px_mk (kX5_readOr X)) 54 ([o0, o1, some (.int (v2)), o3], [], (hp M J R 38 43 nL xs D)) =
    cond (decide (v2 = 0) || decide (v2 = 1)) (some (some (.int (v2)), (hp M J R 38 43 nL xs D))) none := (px_run_eq _ _ _).trans rfl
set_option maxRecDepth 40000 in
theorem eX5_readOr_38_8_11 (X : px_X) (M : Nat → Nat → Int32) (J : Nat → Nat → Int64) (R : Nat → Nat → Option Nat) (nL : Nat) (xs : Nat → Int32) (D : px_H) (v1 : Int32) (v2 : Int32) (v3 : Int32) : px_p (kX5_readOr X) 8 11 ([some (.ref 37), some (.int (v1)), some (.int (v2)), some (.int (v3))], [], (hp M J R 38 43 nL xs D)) =
    px_bd (X 53 [.ref 37, .int (v1)] (hp M J R 38 43 nL xs D))
    (fun v G1 => px_p (kX5_readOr X) 8 14 ([some (.ref 37), some (.int (v1)), some (.int (v2)), some (.int (v3))], px_psh v [], G1)) := rfl
set_option maxRecDepth 40000 in
theorem eX5_readOr_38_8_14 (X : px_X) (M : Nat → Nat → Int32) (J : Nat → Nat → Int64) (R : Nat → Nat → Option Nat) (nL : Nat) (xs : Nat → Int32) (D : px_H) (v1 : Int32) (v2 : Int32) (v3 : Int32) (w0 : Int32) : px_p (kX5_readOr X) 8 14 ([some (.ref 37), some (.int (v1)), some (.int (v2)), some (.int (v3))], [.int (w0)], (hp M J R 38 43 nL xs D)) =
    px_bd (X 40 [.ref 43, .int (10), .int (0)] (hp M J R 38 43 nL xs D))
    (fun v G1 => px_p (kX5_readOr X) 8 20 ([some (.ref 37), some (.int (v1)), some (.int (w0)), some (.int (v3))], px_psh v [], G1)) := rfl
set_option maxRecDepth 40000 in
theorem eX5_readOr_38_8_20 (X : px_X) (M : Nat → Nat → Int32) (J : Nat → Nat → Int64) (R : Nat → Nat → Option Nat) (nL : Nat) (xs : Nat → Int32) (D : px_H) (v1 : Int32) (v2 : Int32) (v3 : Int32) : px_p (kX5_readOr X) 8 20 ([some (.ref 37), some (.int (v1)), some (.int (v2)), some (.int (v3))], [], (hp M J R 38 43 nL xs D)) =
    px_run (px_mk (kX5_readOr X)) 8 ([some (.ref 37), some (.int (v1)), some (.int (v2)), some (.int ((v3 + 1)))], [], (hp M J R 38 43 nL xs D)) := rfl
set_option maxRecDepth 40000 in
theorem eX5_readOr_43_0 (X : px_X) (M : Nat → Nat → Int32) (J : Nat → Nat → Int64) (R : Nat → Nat → Option Nat) (nL : Nat) (xs : Nat → Int32) (D : px_H) (v1 : Int32) : px_run (px_mk (kX5_readOr X)) 0 ([some (.ref 37), some (.int (v1)), none, none], [], (hp M J R 43 38 nL xs D)) =
    px_bd (X 53 [.ref 37, .int (v1)] (hp M J R 43 38 nL xs D))
    (fun v G1 => px_p (kX5_readOr X) 0 3 ([some (.ref 37), some (.int (v1)), none, none], px_psh v [], G1)) := (px_run_eq _ _ _).trans rfl
set_option maxRecDepth 40000 in
theorem eX5_readOr_43_0_3 (X : px_X) (M : Nat → Nat → Int32) (J : Nat → Nat → Int64) (R : Nat → Nat → Option Nat) (nL : Nat) (xs : Nat → Int32) (D : px_H) (v1 : Int32) (w0 : Int32) : px_p (kX5_readOr X) 0 3 ([some (.ref 37), some (.int (v1)), none, none], [.int (w0)], (hp M J R 43 38 nL xs D)) =
    px_run (px_mk (kX5_readOr X)) 8 ([some (.ref 37), some (.int (v1)), some (.int (w0)), some (.int (0))], [], (hp M J R 43 38 nL xs D)) := rfl
set_option maxRecDepth 40000 in
theorem eX5_readOr_43_8 (X : px_X) (M : Nat → Nat → Int32) (J : Nat → Nat → Int64) (R : Nat → Nat → Option Nat) (nL : Nat) (xs : Nat → Int32) (D : px_H) (v1 : Int32) (v2 : Int32) (v3 : Int32) : px_run (px_mk (kX5_readOr X)) 8 ([some (.ref 37), some (.int (v1)), some (.int (v2)), some (.int (v3))], [], (hp M J R 43 38 nL xs D)) =
    cond (decide (160 ≤ v3))
    (px_run (px_mk (kX5_readOr X)) 54 ([some (.ref 37), some (.int (v1)), some (.int (v2)), some (.int (v3))], [], (hp M J R 43 38 nL xs D)))
    (cond (decide (v2 = 0))
    (px_run (px_mk (kX5_readOr X)) 54 ([some (.ref 37), some (.int (v1)), some (.int (v2)), some (.int (v3))], [], (hp M J R 43 38 nL xs D)))
    (cond (decide (¬ M 37 6 = 11))
    (px_run (px_mk (kX5_readOr X)) 54 ([some (.ref 37), some (.int (v1)), some (.int (v2)), some (.int (v3))], [], (hp M J R 43 38 nL xs D)))
    (px_bd (X 61 [.ref 37] (hp M J R 43 38 nL xs D))
    (fun v G1 => px_p (kX5_readOr X) 8 11 ([some (.ref 37), some (.int (v1)), some (.int (v2)), some (.int (v3))], px_psh v [], G1))))) := (px_run_eq _ _ _).trans rfl
set_option maxRecDepth 40000 in
theorem eX5_readOr_43_54 (X : px_X) (M : Nat → Nat → Int32) (J : Nat → Nat → Int64) (R : Nat → Nat → Option Nat) (nL : Nat) (xs : Nat → Int32) (D : px_H) (o0 : Option Value) (o1 : Option Value) (v2 : Int32) (o3 : Option Value) : px_run (px_mk (kX5_readOr X)) 54 ([o0, o1, some (.int (v2)), o3], [], (hp M J R 43 38 nL xs D)) =
    cond (decide (v2 = 0) || decide (v2 = 1)) (some (some (.int (v2)), (hp M J R 43 38 nL xs D))) none := (px_run_eq _ _ _).trans rfl
set_option maxRecDepth 40000 in
theorem eX5_readOr_43_8_11 (X : px_X) (M : Nat → Nat → Int32) (J : Nat → Nat → Int64) (R : Nat → Nat → Option Nat) (nL : Nat) (xs : Nat → Int32) (D : px_H) (v1 : Int32) (v2 : Int32) (v3 : Int32) : px_p (kX5_readOr X) 8 11 ([some (.ref 37), some (.int (v1)), some (.int (v2)), some (.int (v3))], [], (hp M J R 43 38 nL xs D)) =
    px_bd (X 53 [.ref 37, .int (v1)] (hp M J R 43 38 nL xs D))
    (fun v G1 => px_p (kX5_readOr X) 8 14 ([some (.ref 37), some (.int (v1)), some (.int (v2)), some (.int (v3))], px_psh v [], G1)) := rfl
set_option maxRecDepth 40000 in
theorem eX5_readOr_43_8_14 (X : px_X) (M : Nat → Nat → Int32) (J : Nat → Nat → Int64) (R : Nat → Nat → Option Nat) (nL : Nat) (xs : Nat → Int32) (D : px_H) (v1 : Int32) (v2 : Int32) (v3 : Int32) (w0 : Int32) : px_p (kX5_readOr X) 8 14 ([some (.ref 37), some (.int (v1)), some (.int (v2)), some (.int (v3))], [.int (w0)], (hp M J R 43 38 nL xs D)) =
    px_bd (X 40 [.ref 38, .int (10), .int (0)] (hp M J R 43 38 nL xs D))
    (fun v G1 => px_p (kX5_readOr X) 8 20 ([some (.ref 37), some (.int (v1)), some (.int (w0)), some (.int (v3))], px_psh v [], G1)) := rfl
set_option maxRecDepth 40000 in
theorem eX5_readOr_43_8_20 (X : px_X) (M : Nat → Nat → Int32) (J : Nat → Nat → Int64) (R : Nat → Nat → Option Nat) (nL : Nat) (xs : Nat → Int32) (D : px_H) (v1 : Int32) (v2 : Int32) (v3 : Int32) : px_p (kX5_readOr X) 8 20 ([some (.ref 37), some (.int (v1)), some (.int (v2)), some (.int (v3))], [], (hp M J R 43 38 nL xs D)) =
    px_run (px_mk (kX5_readOr X)) 8 ([some (.ref 37), some (.int (v1)), some (.int (v2)), some (.int ((v3 + 1)))], [], (hp M J R 43 38 nL xs D)) := rfl
set_option maxRecDepth 40000 in
theorem eX5_readAnd_38_0 (X : px_X) (M : Nat → Nat → Int32) (J : Nat → Nat → Int64) (R : Nat → Nat → Option Nat) (nL : Nat) (xs : Nat → Int32) (D : px_H) (v1 : Int32) : px_run (px_mk (kX5_readAnd X)) 0 ([some (.ref 37), some (.int (v1)), none, none], [], (hp M J R 38 43 nL xs D)) =
    px_bd (X 54 [.ref 37, .int (v1)] (hp M J R 38 43 nL xs D))
    (fun v G1 => px_p (kX5_readAnd X) 0 3 ([some (.ref 37), some (.int (v1)), none, none], px_psh v [], G1)) := (px_run_eq _ _ _).trans rfl
set_option maxRecDepth 40000 in
theorem eX5_readAnd_38_0_3 (X : px_X) (M : Nat → Nat → Int32) (J : Nat → Nat → Int64) (R : Nat → Nat → Option Nat) (nL : Nat) (xs : Nat → Int32) (D : px_H) (v1 : Int32) (w0 : Int32) : px_p (kX5_readAnd X) 0 3 ([some (.ref 37), some (.int (v1)), none, none], [.int (w0)], (hp M J R 38 43 nL xs D)) =
    px_run (px_mk (kX5_readAnd X)) 8 ([some (.ref 37), some (.int (v1)), some (.int (w0)), some (.int (0))], [], (hp M J R 38 43 nL xs D)) := rfl
set_option maxRecDepth 40000 in
theorem eX5_readAnd_38_8 (X : px_X) (M : Nat → Nat → Int32) (J : Nat → Nat → Int64) (R : Nat → Nat → Option Nat) (nL : Nat) (xs : Nat → Int32) (D : px_H) (v1 : Int32) (v2 : Int32) (v3 : Int32) : px_run (px_mk (kX5_readAnd X)) 8 ([some (.ref 37), some (.int (v1)), some (.int (v2)), some (.int (v3))], [], (hp M J R 38 43 nL xs D)) =
    cond (decide (160 ≤ v3))
    (px_run (px_mk (kX5_readAnd X)) 54 ([some (.ref 37), some (.int (v1)), some (.int (v2)), some (.int (v3))], [], (hp M J R 38 43 nL xs D)))
    (cond (decide (v2 = 0))
    (px_run (px_mk (kX5_readAnd X)) 54 ([some (.ref 37), some (.int (v1)), some (.int (v2)), some (.int (v3))], [], (hp M J R 38 43 nL xs D)))
    (cond (decide (¬ M 37 6 = 12))
    (px_run (px_mk (kX5_readAnd X)) 54 ([some (.ref 37), some (.int (v1)), some (.int (v2)), some (.int (v3))], [], (hp M J R 38 43 nL xs D)))
    (px_bd (X 61 [.ref 37] (hp M J R 38 43 nL xs D))
    (fun v G1 => px_p (kX5_readAnd X) 8 11 ([some (.ref 37), some (.int (v1)), some (.int (v2)), some (.int (v3))], px_psh v [], G1))))) := (px_run_eq _ _ _).trans rfl
set_option maxRecDepth 40000 in
theorem eX5_readAnd_38_54 (X : px_X) (M : Nat → Nat → Int32) (J : Nat → Nat → Int64) (R : Nat → Nat → Option Nat) (nL : Nat) (xs : Nat → Int32) (D : px_H) (o0 : Option Value) (o1 : Option Value) (v2 : Int32) (o3 : Option Value) : px_run (px_mk (kX5_readAnd X)) 54 ([o0, o1, some (.int (v2)), o3], [], (hp M J R 38 43 nL xs D)) =
    cond (decide (v2 = 0) || decide (v2 = 1)) (some (some (.int (v2)), (hp M J R 38 43 nL xs D))) none := (px_run_eq _ _ _).trans rfl
set_option maxRecDepth 40000 in
theorem eX5_readAnd_38_8_11 (X : px_X) (M : Nat → Nat → Int32) (J : Nat → Nat → Int64) (R : Nat → Nat → Option Nat) (nL : Nat) (xs : Nat → Int32) (D : px_H) (v1 : Int32) (v2 : Int32) (v3 : Int32) : px_p (kX5_readAnd X) 8 11 ([some (.ref 37), some (.int (v1)), some (.int (v2)), some (.int (v3))], [], (hp M J R 38 43 nL xs D)) =
    px_bd (X 54 [.ref 37, .int (v1)] (hp M J R 38 43 nL xs D))
    (fun v G1 => px_p (kX5_readAnd X) 8 14 ([some (.ref 37), some (.int (v1)), some (.int (v2)), some (.int (v3))], px_psh v [], G1)) := rfl
set_option maxRecDepth 40000 in
theorem eX5_readAnd_38_8_14 (X : px_X) (M : Nat → Nat → Int32) (J : Nat → Nat → Int64) (R : Nat → Nat → Option Nat) (nL : Nat) (xs : Nat → Int32) (D : px_H) (v1 : Int32) (v2 : Int32) (v3 : Int32) (w0 : Int32) : px_p (kX5_readAnd X) 8 14 ([some (.ref 37), some (.int (v1)), some (.int (v2)), some (.int (v3))], [.int (w0)], (hp M J R 38 43 nL xs D)) =
    px_bd (X 40 [.ref 43, .int (9), .int (0)] (hp M J R 38 43 nL xs D))
    (fun v G1 => px_p (kX5_readAnd X) 8 20 ([some (.ref 37), some (.int (v1)), some (.int (w0)), some (.int (v3))], px_psh v [], G1)) := rfl
set_option maxRecDepth 40000 in
theorem eX5_readAnd_38_8_20 (X : px_X) (M : Nat → Nat → Int32) (J : Nat → Nat → Int64) (R : Nat → Nat → Option Nat) (nL : Nat) (xs : Nat → Int32) (D : px_H) (v1 : Int32) (v2 : Int32) (v3 : Int32) : px_p (kX5_readAnd X) 8 20 ([some (.ref 37), some (.int (v1)), some (.int (v2)), some (.int (v3))], [], (hp M J R 38 43 nL xs D)) =
    px_run (px_mk (kX5_readAnd X)) 8 ([some (.ref 37), some (.int (v1)), some (.int (v2)), some (.int ((v3 + 1)))], [], (hp M J R 38 43 nL xs D)) := rfl
set_option maxRecDepth 40000 in
theorem eX5_readAnd_43_0 (X : px_X) (M : Nat → Nat → Int32) (J : Nat → Nat → Int64) (R : Nat → Nat → Option Nat) (nL : Nat) (xs : Nat → Int32) (D : px_H) (v1 : Int32) : px_run (px_mk (kX5_readAnd X)) 0 ([some (.ref 37), some (.int (v1)), none, none], [], (hp M J R 43 38 nL xs D)) =
    px_bd (X 54 [.ref 37, .int (v1)] (hp M J R 43 38 nL xs D))
    (fun v G1 => px_p (kX5_readAnd X) 0 3 ([some (.ref 37), some (.int (v1)), none, none], px_psh v [], G1)) := (px_run_eq _ _ _).trans rfl
set_option maxRecDepth 40000 in
theorem eX5_readAnd_43_0_3 (X : px_X) (M : Nat → Nat → Int32) (J : Nat → Nat → Int64) (R : Nat → Nat → Option Nat) (nL : Nat) (xs : Nat → Int32) (D : px_H) (v1 : Int32) (w0 : Int32) : px_p (kX5_readAnd X) 0 3 ([some (.ref 37), some (.int (v1)), none, none], [.int (w0)], (hp M J R 43 38 nL xs D)) =
    px_run (px_mk (kX5_readAnd X)) 8 ([some (.ref 37), some (.int (v1)), some (.int (w0)), some (.int (0))], [], (hp M J R 43 38 nL xs D)) := rfl
set_option maxRecDepth 40000 in
theorem eX5_readAnd_43_8 (X : px_X) (M : Nat → Nat → Int32) (J : Nat → Nat → Int64) (R : Nat → Nat → Option Nat) (nL : Nat) (xs : Nat → Int32) (D : px_H) (v1 : Int32) (v2 : Int32) (v3 : Int32) : px_run (px_mk (kX5_readAnd X)) 8 ([some (.ref 37), some (.int (v1)), some (.int (v2)), some (.int (v3))], [], (hp M J R 43 38 nL xs D)) =
    cond (decide (160 ≤ v3))
    (px_run (px_mk (kX5_readAnd X)) 54 ([some (.ref 37), some (.int (v1)), some (.int (v2)), some (.int (v3))], [], (hp M J R 43 38 nL xs D)))
    (cond (decide (v2 = 0))
    (px_run (px_mk (kX5_readAnd X)) 54 ([some (.ref 37), some (.int (v1)), some (.int (v2)), some (.int (v3))], [], (hp M J R 43 38 nL xs D)))
    (cond (decide (¬ M 37 6 = 12))
    (px_run (px_mk (kX5_readAnd X)) 54 ([some (.ref 37), some (.int (v1)), some (.int (v2)), some (.int (v3))], [], (hp M J R 43 38 nL xs D)))
    (px_bd (X 61 [.ref 37] (hp M J R 43 38 nL xs D))
    (fun v G1 => px_p (kX5_readAnd X) 8 11 ([some (.ref 37), some (.int (v1)), some (.int (v2)), some (.int (v3))], px_psh v [], G1))))) := (px_run_eq _ _ _).trans rfl
set_option maxRecDepth 40000 in
theorem eX5_readAnd_43_54 (X : px_X) (M : Nat → Nat → Int32) (J : Nat → Nat → Int64) (R : Nat → Nat → Option Nat) (nL : Nat) (xs : Nat → Int32) (D : px_H) (o0 : Option Value) (o1 : Option Value) (v2 : Int32) (o3 : Option Value) : px_run (px_mk (kX5_readAnd X)) 54 ([o0, o1, some (.int (v2)), o3], [], (hp M J R 43 38 nL xs D)) =
    cond (decide (v2 = 0) || decide (v2 = 1)) (some (some (.int (v2)), (hp M J R 43 38 nL xs D))) none := (px_run_eq _ _ _).trans rfl
set_option maxRecDepth 40000 in
theorem eX5_readAnd_43_8_11 (X : px_X) (M : Nat → Nat → Int32) (J : Nat → Nat → Int64) (R : Nat → Nat → Option Nat) (nL : Nat) (xs : Nat → Int32) (D : px_H) (v1 : Int32) (v2 : Int32) (v3 : Int32) : px_p (kX5_readAnd X) 8 11 ([some (.ref 37), some (.int (v1)), some (.int (v2)), some (.int (v3))], [], (hp M J R 43 38 nL xs D)) =
    px_bd (X 54 [.ref 37, .int (v1)] (hp M J R 43 38 nL xs D))
    (fun v G1 => px_p (kX5_readAnd X) 8 14 ([some (.ref 37), some (.int (v1)), some (.int (v2)), some (.int (v3))], px_psh v [], G1)) := rfl
set_option maxRecDepth 40000 in
theorem eX5_readAnd_43_8_14 (X : px_X) (M : Nat → Nat → Int32) (J : Nat → Nat → Int64) (R : Nat → Nat → Option Nat) (nL : Nat) (xs : Nat → Int32) (D : px_H) (v1 : Int32) (v2 : Int32) (v3 : Int32) (w0 : Int32) : px_p (kX5_readAnd X) 8 14 ([some (.ref 37), some (.int (v1)), some (.int (v2)), some (.int (v3))], [.int (w0)], (hp M J R 43 38 nL xs D)) =
    px_bd (X 40 [.ref 38, .int (9), .int (0)] (hp M J R 43 38 nL xs D))
    (fun v G1 => px_p (kX5_readAnd X) 8 20 ([some (.ref 37), some (.int (v1)), some (.int (w0)), some (.int (v3))], px_psh v [], G1)) := rfl
set_option maxRecDepth 40000 in
theorem eX5_readAnd_43_8_20 (X : px_X) (M : Nat → Nat → Int32) (J : Nat → Nat → Int64) (R : Nat → Nat → Option Nat) (nL : Nat) (xs : Nat → Int32) (D : px_H) (v1 : Int32) (v2 : Int32) (v3 : Int32) : px_p (kX5_readAnd X) 8 20 ([some (.ref 37), some (.int (v1)), some (.int (v2)), some (.int (v3))], [], (hp M J R 43 38 nL xs D)) =
    px_run (px_mk (kX5_readAnd X)) 8 ([some (.ref 37), some (.int (v1)), some (.int (v2)), some (.int ((v3 + 1)))], [], (hp M J R 43 38 nL xs D)) := rfl
set_option maxRecDepth 40000 in
theorem eX5_readNot_38_0 (X : px_X) (M : Nat → Nat → Int32) (J : Nat → Nat → Int64) (R : Nat → Nat → Option Nat) (nL : Nat) (xs : Nat → Int32) (D : px_H) (v1 : Int32) : px_run (px_mk (kX5_readNot X)) 0 ([some (.ref 37), some (.int (v1)), none], [], (hp M J R 38 43 nL xs D)) =
    cond (decide (M 37 6 = 13))
    (px_run (px_mk (kX5_readNot X)) 15 ([some (.ref 37), some (.int (v1)), none], [], (hp M J R 38 43 nL xs D)))
    (px_bd (X 55 [.ref 37, .int (v1)] (hp M J R 38 43 nL xs D))
    (fun v G1 => px_p (kX5_readNot X) 0 7 ([some (.ref 37), some (.int (v1)), none], px_psh v [], G1))) := (px_run_eq _ _ _).trans rfl
set_option maxRecDepth 40000 in
theorem eX5_readNot_38_15 (X : px_X) (M : Nat → Nat → Int32) (J : Nat → Nat → Int64) (R : Nat → Nat → Option Nat) (nL : Nat) (xs : Nat → Int32) (D : px_H) (v1 : Int32) (o2 : Option Value) : px_run (px_mk (kX5_readNot X)) 15 ([some (.ref 37), some (.int (v1)), o2], [], (hp M J R 38 43 nL xs D)) =
    cond (decide (v1 < 5))
    (px_run (px_mk (kX5_readNot X)) 22 ([some (.ref 37), some (.int (v1)), none], [], (hp M J R 38 43 nL xs D)))
    (some (some (.int (0)), (hp M J R 38 43 nL xs D))) := (px_run_eq _ _ _).trans rfl
set_option maxRecDepth 40000 in
theorem eX5_readNot_38_0_7 (X : px_X) (M : Nat → Nat → Int32) (J : Nat → Nat → Int64) (R : Nat → Nat → Option Nat) (nL : Nat) (xs : Nat → Int32) (D : px_H) (v1 : Int32) (w0 : Int32) : px_p (kX5_readNot X) 0 7 ([some (.ref 37), some (.int (v1)), none], [.int (w0)], (hp M J R 38 43 nL xs D)) =
    cond (decide (w0 = 0) || decide (w0 = 1)) (some (some (.int (w0)), (hp M J R 38 43 nL xs D))) none := rfl
set_option maxRecDepth 40000 in
theorem eX5_readNot_38_22 (X : px_X) (M : Nat → Nat → Int32) (J : Nat → Nat → Int64) (R : Nat → Nat → Option Nat) (nL : Nat) (xs : Nat → Int32) (D : px_H) (v1 : Int32) (o2 : Option Value) : px_run (px_mk (kX5_readNot X)) 22 ([some (.ref 37), some (.int (v1)), o2], [], (hp M J R 38 43 nL xs D)) =
    px_bd (X 61 [.ref 37] (hp M J R 38 43 nL xs D))
    (fun v G1 => px_p (kX5_readNot X) 22 2 ([some (.ref 37), some (.int (v1)), none], px_psh v [], G1)) := (px_run_eq _ _ _).trans rfl
set_option maxRecDepth 40000 in
theorem eX5_readNot_38_22_2 (X : px_X) (M : Nat → Nat → Int32) (J : Nat → Nat → Int64) (R : Nat → Nat → Option Nat) (nL : Nat) (xs : Nat → Int32) (D : px_H) (v1 : Int32) : px_p (kX5_readNot X) 22 2 ([some (.ref 37), some (.int (v1)), none], [], (hp M J R 38 43 nL xs D)) =
    px_bd (X 54 [.ref 37, .int ((v1 + 1))] (hp M J R 38 43 nL xs D))
    (fun v G1 => px_p (kX5_readNot X) 22 7 ([some (.ref 37), some (.int (v1)), none], px_psh v [], G1)) := rfl
set_option maxRecDepth 40000 in
theorem eX5_readNot_38_22_7 (X : px_X) (M : Nat → Nat → Int32) (J : Nat → Nat → Int64) (R : Nat → Nat → Option Nat) (nL : Nat) (xs : Nat → Int32) (D : px_H) (v1 : Int32) (w0 : Int32) : px_p (kX5_readNot X) 22 7 ([some (.ref 37), some (.int (v1)), none], [.int (w0)], (hp M J R 38 43 nL xs D)) =
    px_bd (X 40 [.ref 43, .int (3), .int (0)] (hp M J R 38 43 nL xs D))
    (fun v G1 => px_p (kX5_readNot X) 22 13 ([some (.ref 37), some (.int (v1)), some (.int (w0))], px_psh v [], G1)) := rfl
set_option maxRecDepth 40000 in
theorem eX5_readNot_38_22_13 (X : px_X) (M : Nat → Nat → Int32) (J : Nat → Nat → Int64) (R : Nat → Nat → Option Nat) (nL : Nat) (xs : Nat → Int32) (D : px_H) (v1 : Int32) (v2 : Int32) : px_p (kX5_readNot X) 22 13 ([some (.ref 37), some (.int (v1)), some (.int (v2))], [], (hp M J R 38 43 nL xs D)) =
    cond (decide (v2 = 0) || decide (v2 = 1)) (some (some (.int (v2)), (hp M J R 38 43 nL xs D))) none := rfl
set_option maxRecDepth 40000 in
theorem eX5_readNot_43_0 (X : px_X) (M : Nat → Nat → Int32) (J : Nat → Nat → Int64) (R : Nat → Nat → Option Nat) (nL : Nat) (xs : Nat → Int32) (D : px_H) (v1 : Int32) : px_run (px_mk (kX5_readNot X)) 0 ([some (.ref 37), some (.int (v1)), none], [], (hp M J R 43 38 nL xs D)) =
    cond (decide (M 37 6 = 13))
    (px_run (px_mk (kX5_readNot X)) 15 ([some (.ref 37), some (.int (v1)), none], [], (hp M J R 43 38 nL xs D)))
    (px_bd (X 55 [.ref 37, .int (v1)] (hp M J R 43 38 nL xs D))
    (fun v G1 => px_p (kX5_readNot X) 0 7 ([some (.ref 37), some (.int (v1)), none], px_psh v [], G1))) := (px_run_eq _ _ _).trans rfl
set_option maxRecDepth 40000 in
theorem eX5_readNot_43_15 (X : px_X) (M : Nat → Nat → Int32) (J : Nat → Nat → Int64) (R : Nat → Nat → Option Nat) (nL : Nat) (xs : Nat → Int32) (D : px_H) (v1 : Int32) (o2 : Option Value) : px_run (px_mk (kX5_readNot X)) 15 ([some (.ref 37), some (.int (v1)), o2], [], (hp M J R 43 38 nL xs D)) =
    cond (decide (v1 < 5))
    (px_run (px_mk (kX5_readNot X)) 22 ([some (.ref 37), some (.int (v1)), none], [], (hp M J R 43 38 nL xs D)))
    (some (some (.int (0)), (hp M J R 43 38 nL xs D))) := (px_run_eq _ _ _).trans rfl
set_option maxRecDepth 40000 in
theorem eX5_readNot_43_0_7 (X : px_X) (M : Nat → Nat → Int32) (J : Nat → Nat → Int64) (R : Nat → Nat → Option Nat) (nL : Nat) (xs : Nat → Int32) (D : px_H) (v1 : Int32) (w0 : Int32) : px_p (kX5_readNot X) 0 7 ([some (.ref 37), some (.int (v1)), none], [.int (w0)], (hp M J R 43 38 nL xs D)) =
    cond (decide (w0 = 0) || decide (w0 = 1)) (some (some (.int (w0)), (hp M J R 43 38 nL xs D))) none := rfl
set_option maxRecDepth 40000 in
theorem eX5_readNot_43_22 (X : px_X) (M : Nat → Nat → Int32) (J : Nat → Nat → Int64) (R : Nat → Nat → Option Nat) (nL : Nat) (xs : Nat → Int32) (D : px_H) (v1 : Int32) (o2 : Option Value) : px_run (px_mk (kX5_readNot X)) 22 ([some (.ref 37), some (.int (v1)), o2], [], (hp M J R 43 38 nL xs D)) =
    px_bd (X 61 [.ref 37] (hp M J R 43 38 nL xs D))
    (fun v G1 => px_p (kX5_readNot X) 22 2 ([some (.ref 37), some (.int (v1)), none], px_psh v [], G1)) := (px_run_eq _ _ _).trans rfl
set_option maxRecDepth 40000 in
theorem eX5_readNot_43_22_2 (X : px_X) (M : Nat → Nat → Int32) (J : Nat → Nat → Int64) (R : Nat → Nat → Option Nat) (nL : Nat) (xs : Nat → Int32) (D : px_H) (v1 : Int32) : px_p (kX5_readNot X) 22 2 ([some (.ref 37), some (.int (v1)), none], [], (hp M J R 43 38 nL xs D)) =
    px_bd (X 54 [.ref 37, .int ((v1 + 1))] (hp M J R 43 38 nL xs D))
    (fun v G1 => px_p (kX5_readNot X) 22 7 ([some (.ref 37), some (.int (v1)), none], px_psh v [], G1)) := rfl
set_option maxRecDepth 40000 in
theorem eX5_readNot_43_22_7 (X : px_X) (M : Nat → Nat → Int32) (J : Nat → Nat → Int64) (R : Nat → Nat → Option Nat) (nL : Nat) (xs : Nat → Int32) (D : px_H) (v1 : Int32) (w0 : Int32) : px_p (kX5_readNot X) 22 7 ([some (.ref 37), some (.int (v1)), none], [.int (w0)], (hp M J R 43 38 nL xs D)) =
    px_bd (X 40 [.ref 38, .int (3), .int (0)] (hp M J R 43 38 nL xs D))
    (fun v G1 => px_p (kX5_readNot X) 22 13 ([some (.ref 37), some (.int (v1)), some (.int (w0))], px_psh v [], G1)) := rfl
set_option maxRecDepth 40000 in
theorem eX5_readNot_43_22_13 (X : px_X) (M : Nat → Nat → Int32) (J : Nat → Nat → Int64) (R : Nat → Nat → Option Nat) (nL : Nat) (xs : Nat → Int32) (D : px_H) (v1 : Int32) (v2 : Int32) : px_p (kX5_readNot X) 22 13 ([some (.ref 37), some (.int (v1)), some (.int (v2))], [], (hp M J R 43 38 nL xs D)) =
    cond (decide (v2 = 0) || decide (v2 = 1)) (some (some (.int (v2)), (hp M J R 43 38 nL xs D))) none := rfl
set_option maxRecDepth 40000 in
theorem eX5_readCompared_38_0 (X : px_X) (M : Nat → Nat → Int32) (J : Nat → Nat → Int64) (R : Nat → Nat → Option Nat) (nL : Nat) (xs : Nat → Int32) (D : px_H) (v1 : Int32) : px_run (px_mk (kX5_readCompared X)) 0 ([some (.ref 37), some (.int (v1)), none, none], [], (hp M J R 38 43 nL xs D)) =
    px_bd (X 56 [.ref 37, .int (v1)] (hp M J R 38 43 nL xs D))
    (fun v G1 => px_p (kX5_readCompared X) 0 3 ([some (.ref 37), some (.int (v1)), none, none], px_psh v [], G1)) := (px_run_eq _ _ _).trans rfl
set_option maxRecDepth 40000 in
theorem eX5_readCompared_38_0_3 (X : px_X) (M : Nat → Nat → Int32) (J : Nat → Nat → Int64) (R : Nat → Nat → Option Nat) (nL : Nat) (xs : Nat → Int32) (D : px_H) (v1 : Int32) (w0 : Int32) : px_p (kX5_readCompared X) 0 3 ([some (.ref 37), some (.int (v1)), none, none], [.int (w0)], (hp M J R 38 43 nL xs D)) =
    cond (decide (¬ w0 = 0))
    (px_run (px_mk (kX5_readCompared X)) 10 ([some (.ref 37), some (.int (v1)), none, none], [], (hp M J R 38 43 nL xs D)))
    (some (some (.int (0)), (hp M J R 38 43 nL xs D))) := rfl
set_option maxRecDepth 40000 in
theorem eX5_readCompared_38_10 (X : px_X) (M : Nat → Nat → Int32) (J : Nat → Nat → Int64) (R : Nat → Nat → Option Nat) (nL : Nat) (xs : Nat → Int32) (D : px_H) (v1 : Int32) (o2 : Option Value) (o3 : Option Value) : px_run (px_mk (kX5_readCompared X)) 10 ([some (.ref 37), some (.int (v1)), o2, o3], [], (hp M J R 38 43 nL xs D)) =
    cond (decide (M 37 6 = 60))
    (px_run (px_mk (kX5_readCompared X)) 30 ([some (.ref 37), some (.int (v1)), none, none], [], (hp M J R 38 43 nL xs D)))
    (cond (decide (M 37 6 = 61))
    (px_run (px_mk (kX5_readCompared X)) 30 ([some (.ref 37), some (.int (v1)), none, none], [], (hp M J R 38 43 nL xs D)))
    (some (some (.int (1)), (hp M J R 38 43 nL xs D)))) := (px_run_eq _ _ _).trans rfl
set_option maxRecDepth 40000 in
theorem eX5_readCompared_38_30 (X : px_X) (M : Nat → Nat → Int32) (J : Nat → Nat → Int64) (R : Nat → Nat → Option Nat) (nL : Nat) (xs : Nat → Int32) (D : px_H) (v1 : Int32) (o2 : Option Value) (o3 : Option Value) : px_run (px_mk (kX5_readCompared X)) 30 ([some (.ref 37), some (.int (v1)), o2, o3], [], (hp M J R 38 43 nL xs D)) =
    cond (decide (¬ M 37 6 = 60))
    (px_run (px_mk (kX5_readCompared X)) 44 ([some (.ref 37), some (.int (v1)), none, none], [], (hp M J R 38 43 nL xs D)))
    (px_run (px_mk (kX5_readCompared X)) 46 ([some (.ref 37), some (.int (v1)), none, none], [.int (7)], (hp M J R 38 43 nL xs D))) := (px_run_eq _ _ _).trans rfl
set_option maxRecDepth 40000 in
theorem eX5_readCompared_38_44 (X : px_X) (M : Nat → Nat → Int32) (J : Nat → Nat → Int64) (R : Nat → Nat → Option Nat) (nL : Nat) (xs : Nat → Int32) (D : px_H) (v1 : Int32) (o2 : Option Value) (o3 : Option Value) : px_run (px_mk (kX5_readCompared X)) 44 ([some (.ref 37), some (.int (v1)), o2, o3], [], (hp M J R 38 43 nL xs D)) =
    px_run (px_mk (kX5_readCompared X)) 46 ([some (.ref 37), some (.int (v1)), none, none], [.int (8)], (hp M J R 38 43 nL xs D)) := (px_run_eq _ _ _).trans rfl
set_option maxRecDepth 40000 in
theorem eX5_readCompared_38_46 (X : px_X) (M : Nat → Nat → Int32) (J : Nat → Nat → Int64) (R : Nat → Nat → Option Nat) (nL : Nat) (xs : Nat → Int32) (D : px_H) (v1 : Int32) (o2 : Option Value) (o3 : Option Value) (w0 : Int32) : px_run (px_mk (kX5_readCompared X)) 46 ([some (.ref 37), some (.int (v1)), o2, o3], [.int (w0)], (hp M J R 38 43 nL xs D)) =
    px_bd (X 61 [.ref 37] (hp M J R 38 43 nL xs D))
    (fun v G1 => px_p (kX5_readCompared X) 46 3 ([some (.ref 37), some (.int (v1)), some (.int (w0)), none], px_psh v [], G1)) := (px_run_eq _ _ _).trans rfl
set_option maxRecDepth 40000 in
theorem eX5_readCompared_38_46_3 (X : px_X) (M : Nat → Nat → Int32) (J : Nat → Nat → Int64) (R : Nat → Nat → Option Nat) (nL : Nat) (xs : Nat → Int32) (D : px_H) (v1 : Int32) (v2 : Int32) : px_p (kX5_readCompared X) 46 3 ([some (.ref 37), some (.int (v1)), some (.int (v2)), none], [], (hp M J R 38 43 nL xs D)) =
    px_bd (X 56 [.ref 37, .int (v1)] (hp M J R 38 43 nL xs D))
    (fun v G1 => px_p (kX5_readCompared X) 46 6 ([some (.ref 37), some (.int (v1)), some (.int (v2)), none], px_psh v [], G1)) := rfl
set_option maxRecDepth 40000 in
theorem eX5_readCompared_38_46_6 (X : px_X) (M : Nat → Nat → Int32) (J : Nat → Nat → Int64) (R : Nat → Nat → Option Nat) (nL : Nat) (xs : Nat → Int32) (D : px_H) (v1 : Int32) (v2 : Int32) (w0 : Int32) : px_p (kX5_readCompared X) 46 6 ([some (.ref 37), some (.int (v1)), some (.int (v2)), none], [.int (w0)], (hp M J R 38 43 nL xs D)) =
    px_bd (X 40 [.ref 43, .int (v2), .int (0)] (hp M J R 38 43 nL xs D))
    (fun v G1 => px_p (kX5_readCompared X) 46 12 ([some (.ref 37), some (.int (v1)), some (.int (v2)), some (.int (w0))], px_psh v [], G1)) := rfl
set_option maxRecDepth 40000 in
theorem eX5_readCompared_38_46_12 (X : px_X) (M : Nat → Nat → Int32) (J : Nat → Nat → Int64) (R : Nat → Nat → Option Nat) (nL : Nat) (xs : Nat → Int32) (D : px_H) (v1 : Int32) (v2 : Int32) (v3 : Int32) : px_p (kX5_readCompared X) 46 12 ([some (.ref 37), some (.int (v1)), some (.int (v2)), some (.int (v3))], [], (hp M J R 38 43 nL xs D)) =
    cond (decide (v3 = 0) || decide (v3 = 1)) (some (some (.int (v3)), (hp M J R 38 43 nL xs D))) none := rfl
set_option maxRecDepth 40000 in
theorem eX5_readCompared_43_0 (X : px_X) (M : Nat → Nat → Int32) (J : Nat → Nat → Int64) (R : Nat → Nat → Option Nat) (nL : Nat) (xs : Nat → Int32) (D : px_H) (v1 : Int32) : px_run (px_mk (kX5_readCompared X)) 0 ([some (.ref 37), some (.int (v1)), none, none], [], (hp M J R 43 38 nL xs D)) =
    px_bd (X 56 [.ref 37, .int (v1)] (hp M J R 43 38 nL xs D))
    (fun v G1 => px_p (kX5_readCompared X) 0 3 ([some (.ref 37), some (.int (v1)), none, none], px_psh v [], G1)) := (px_run_eq _ _ _).trans rfl
set_option maxRecDepth 40000 in
theorem eX5_readCompared_43_0_3 (X : px_X) (M : Nat → Nat → Int32) (J : Nat → Nat → Int64) (R : Nat → Nat → Option Nat) (nL : Nat) (xs : Nat → Int32) (D : px_H) (v1 : Int32) (w0 : Int32) : px_p (kX5_readCompared X) 0 3 ([some (.ref 37), some (.int (v1)), none, none], [.int (w0)], (hp M J R 43 38 nL xs D)) =
    cond (decide (¬ w0 = 0))
    (px_run (px_mk (kX5_readCompared X)) 10 ([some (.ref 37), some (.int (v1)), none, none], [], (hp M J R 43 38 nL xs D)))
    (some (some (.int (0)), (hp M J R 43 38 nL xs D))) := rfl
set_option maxRecDepth 40000 in
theorem eX5_readCompared_43_10 (X : px_X) (M : Nat → Nat → Int32) (J : Nat → Nat → Int64) (R : Nat → Nat → Option Nat) (nL : Nat) (xs : Nat → Int32) (D : px_H) (v1 : Int32) (o2 : Option Value) (o3 : Option Value) : px_run (px_mk (kX5_readCompared X)) 10 ([some (.ref 37), some (.int (v1)), o2, o3], [], (hp M J R 43 38 nL xs D)) =
    cond (decide (M 37 6 = 60))
    (px_run (px_mk (kX5_readCompared X)) 30 ([some (.ref 37), some (.int (v1)), none, none], [], (hp M J R 43 38 nL xs D)))
    (cond (decide (M 37 6 = 61))
    (px_run (px_mk (kX5_readCompared X)) 30 ([some (.ref 37), some (.int (v1)), none, none], [], (hp M J R 43 38 nL xs D)))
    (some (some (.int (1)), (hp M J R 43 38 nL xs D)))) := (px_run_eq _ _ _).trans rfl
set_option maxRecDepth 40000 in
theorem eX5_readCompared_43_30 (X : px_X) (M : Nat → Nat → Int32) (J : Nat → Nat → Int64) (R : Nat → Nat → Option Nat) (nL : Nat) (xs : Nat → Int32) (D : px_H) (v1 : Int32) (o2 : Option Value) (o3 : Option Value) : px_run (px_mk (kX5_readCompared X)) 30 ([some (.ref 37), some (.int (v1)), o2, o3], [], (hp M J R 43 38 nL xs D)) =
    cond (decide (¬ M 37 6 = 60))
    (px_run (px_mk (kX5_readCompared X)) 44 ([some (.ref 37), some (.int (v1)), none, none], [], (hp M J R 43 38 nL xs D)))
    (px_run (px_mk (kX5_readCompared X)) 46 ([some (.ref 37), some (.int (v1)), none, none], [.int (7)], (hp M J R 43 38 nL xs D))) := (px_run_eq _ _ _).trans rfl
set_option maxRecDepth 40000 in
theorem eX5_readCompared_43_44 (X : px_X) (M : Nat → Nat → Int32) (J : Nat → Nat → Int64) (R : Nat → Nat → Option Nat) (nL : Nat) (xs : Nat → Int32) (D : px_H) (v1 : Int32) (o2 : Option Value) (o3 : Option Value) : px_run (px_mk (kX5_readCompared X)) 44 ([some (.ref 37), some (.int (v1)), o2, o3], [], (hp M J R 43 38 nL xs D)) =
    px_run (px_mk (kX5_readCompared X)) 46 ([some (.ref 37), some (.int (v1)), none, none], [.int (8)], (hp M J R 43 38 nL xs D)) := (px_run_eq _ _ _).trans rfl
set_option maxRecDepth 40000 in
theorem eX5_readCompared_43_46 (X : px_X) (M : Nat → Nat → Int32) (J : Nat → Nat → Int64) (R : Nat → Nat → Option Nat) (nL : Nat) (xs : Nat → Int32) (D : px_H) (v1 : Int32) (o2 : Option Value) (o3 : Option Value) (w0 : Int32) : px_run (px_mk (kX5_readCompared X)) 46 ([some (.ref 37), some (.int (v1)), o2, o3], [.int (w0)], (hp M J R 43 38 nL xs D)) =
    px_bd (X 61 [.ref 37] (hp M J R 43 38 nL xs D))
    (fun v G1 => px_p (kX5_readCompared X) 46 3 ([some (.ref 37), some (.int (v1)), some (.int (w0)), none], px_psh v [], G1)) := (px_run_eq _ _ _).trans rfl
set_option maxRecDepth 40000 in
theorem eX5_readCompared_43_46_3 (X : px_X) (M : Nat → Nat → Int32) (J : Nat → Nat → Int64) (R : Nat → Nat → Option Nat) (nL : Nat) (xs : Nat → Int32) (D : px_H) (v1 : Int32) (v2 : Int32) : px_p (kX5_readCompared X) 46 3 ([some (.ref 37), some (.int (v1)), some (.int (v2)), none], [], (hp M J R 43 38 nL xs D)) =
    px_bd (X 56 [.ref 37, .int (v1)] (hp M J R 43 38 nL xs D))
    (fun v G1 => px_p (kX5_readCompared X) 46 6 ([some (.ref 37), some (.int (v1)), some (.int (v2)), none], px_psh v [], G1)) := rfl
set_option maxRecDepth 40000 in
theorem eX5_readCompared_43_46_6 (X : px_X) (M : Nat → Nat → Int32) (J : Nat → Nat → Int64) (R : Nat → Nat → Option Nat) (nL : Nat) (xs : Nat → Int32) (D : px_H) (v1 : Int32) (v2 : Int32) (w0 : Int32) : px_p (kX5_readCompared X) 46 6 ([some (.ref 37), some (.int (v1)), some (.int (v2)), none], [.int (w0)], (hp M J R 43 38 nL xs D)) =
    px_bd (X 40 [.ref 38, .int (v2), .int (0)] (hp M J R 43 38 nL xs D))
    (fun v G1 => px_p (kX5_readCompared X) 46 12 ([some (.ref 37), some (.int (v1)), some (.int (v2)), some (.int (w0))], px_psh v [], G1)) := rfl
set_option maxRecDepth 40000 in
theorem eX5_readCompared_43_46_12 (X : px_X) (M : Nat → Nat → Int32) (J : Nat → Nat → Int64) (R : Nat → Nat → Option Nat) (nL : Nat) (xs : Nat → Int32) (D : px_H) (v1 : Int32) (v2 : Int32) (v3 : Int32) : px_p (kX5_readCompared X) 46 12 ([some (.ref 37), some (.int (v1)), some (.int (v2)), some (.int (v3))], [], (hp M J R 43 38 nL xs D)) =
    cond (decide (v3 = 0) || decide (v3 = 1)) (some (some (.int (v3)), (hp M J R 43 38 nL xs D))) none := rfl
set_option maxRecDepth 40000 in
theorem eX5_readSum_38_0 (X : px_X) (M : Nat → Nat → Int32) (J : Nat → Nat → Int64) (R : Nat → Nat → Option Nat) (nL : Nat) (xs : Nat → Int32) (D : px_H) (v1 : Int32) : px_run (px_mk (kX5_readSum X)) 0 ([some (.ref 37), some (.int (v1)), none, none, none], [], (hp M J R 38 43 nL xs D)) =
    px_bd (X 57 [.ref 37, .int (v1)] (hp M J R 38 43 nL xs D))
    (fun v G1 => px_p (kX5_readSum X) 0 3 ([some (.ref 37), some (.int (v1)), none, none, none], px_psh v [], G1)) := (px_run_eq _ _ _).trans rfl
set_option maxRecDepth 40000 in
theorem eX5_readSum_38_0_3 (X : px_X) (M : Nat → Nat → Int32) (J : Nat → Nat → Int64) (R : Nat → Nat → Option Nat) (nL : Nat) (xs : Nat → Int32) (D : px_H) (v1 : Int32) (w0 : Int32) : px_p (kX5_readSum X) 0 3 ([some (.ref 37), some (.int (v1)), none, none, none], [.int (w0)], (hp M J R 38 43 nL xs D)) =
    px_run (px_mk (kX5_readSum X)) 8 ([some (.ref 37), some (.int (v1)), some (.int (w0)), some (.int (0)), none], [], (hp M J R 38 43 nL xs D)) := rfl
set_option maxRecDepth 40000 in
theorem eX5_readSum_38_8 (X : px_X) (M : Nat → Nat → Int32) (J : Nat → Nat → Int64) (R : Nat → Nat → Option Nat) (nL : Nat) (xs : Nat → Int32) (D : px_H) (v1 : Int32) (v2 : Int32) (v3 : Int32) (o4 : Option Value) : px_run (px_mk (kX5_readSum X)) 8 ([some (.ref 37), some (.int (v1)), some (.int (v2)), some (.int (v3)), o4], [], (hp M J R 38 43 nL xs D)) =
    cond (decide (160 ≤ v3))
    (px_run (px_mk (kX5_readSum X)) 80 ([some (.ref 37), some (.int (v1)), some (.int (v2)), some (.int (v3)), none], [], (hp M J R 38 43 nL xs D)))
    (cond (decide (v2 = 0))
    (px_run (px_mk (kX5_readSum X)) 80 ([some (.ref 37), some (.int (v1)), some (.int (v2)), some (.int (v3)), none], [], (hp M J R 38 43 nL xs D)))
    (cond (decide (M 37 6 = 43))
    (px_run (px_mk (kX5_readSum X)) 37 ([some (.ref 37), some (.int (v1)), some (.int (v2)), some (.int (v3)), none], [], (hp M J R 38 43 nL xs D)))
    (cond (decide (¬ M 37 6 = 45))
    (px_run (px_mk (kX5_readSum X)) 80 ([some (.ref 37), some (.int (v1)), some (.int (v2)), some (.int (v3)), none], [], (hp M J R 38 43 nL xs D)))
    (px_run (px_mk (kX5_readSum X)) 37 ([some (.ref 37), some (.int (v1)), some (.int (v2)), some (.int (v3)), none], [], (hp M J R 38 43 nL xs D)))))) := (px_run_eq _ _ _).trans rfl
set_option maxRecDepth 40000 in
theorem eX5_readSum_38_80 (X : px_X) (M : Nat → Nat → Int32) (J : Nat → Nat → Int64) (R : Nat → Nat → Option Nat) (nL : Nat) (xs : Nat → Int32) (D : px_H) (o0 : Option Value) (o1 : Option Value) (v2 : Int32) (o3 : Option Value) (o4 : Option Value) : px_run (px_mk (kX5_readSum X)) 80 ([o0, o1, some (.int (v2)), o3, o4], [], (hp M J R 38 43 nL xs D)) =
    cond (decide (v2 = 0) || decide (v2 = 1)) (some (some (.int (v2)), (hp M J R 38 43 nL xs D))) none := (px_run_eq _ _ _).trans rfl
set_option maxRecDepth 40000 in
theorem eX5_readSum_38_37 (X : px_X) (M : Nat → Nat → Int32) (J : Nat → Nat → Int64) (R : Nat → Nat → Option Nat) (nL : Nat) (xs : Nat → Int32) (D : px_H) (v1 : Int32) (o2 : Option Value) (v3 : Int32) (o4 : Option Value) : px_run (px_mk (kX5_readSum X)) 37 ([some (.ref 37), some (.int (v1)), o2, some (.int (v3)), o4], [], (hp M J R 38 43 nL xs D)) =
    cond (decide (¬ M 37 6 = 43))
    (px_run (px_mk (kX5_readSum X)) 50 ([some (.ref 37), some (.int (v1)), none, some (.int (v3)), none], [], (hp M J R 38 43 nL xs D)))
    (px_run (px_mk (kX5_readSum X)) 52 ([some (.ref 37), some (.int (v1)), none, some (.int (v3)), none], [.int (5)], (hp M J R 38 43 nL xs D))) := (px_run_eq _ _ _).trans rfl
set_option maxRecDepth 40000 in
theorem eX5_readSum_38_50 (X : px_X) (M : Nat → Nat → Int32) (J : Nat → Nat → Int64) (R : Nat → Nat → Option Nat) (nL : Nat) (xs : Nat → Int32) (D : px_H) (v1 : Int32) (o2 : Option Value) (v3 : Int32) (o4 : Option Value) : px_run (px_mk (kX5_readSum X)) 50 ([some (.ref 37), some (.int (v1)), o2, some (.int (v3)), o4], [], (hp M J R 38 43 nL xs D)) =
    px_run (px_mk (kX5_readSum X)) 52 ([some (.ref 37), some (.int (v1)), none, some (.int (v3)), none], [.int (6)], (hp M J R 38 43 nL xs D)) := (px_run_eq _ _ _).trans rfl
set_option maxRecDepth 40000 in
theorem eX5_readSum_38_52 (X : px_X) (M : Nat → Nat → Int32) (J : Nat → Nat → Int64) (R : Nat → Nat → Option Nat) (nL : Nat) (xs : Nat → Int32) (D : px_H) (v1 : Int32) (o2 : Option Value) (v3 : Int32) (o4 : Option Value) (w0 : Int32) : px_run (px_mk (kX5_readSum X)) 52 ([some (.ref 37), some (.int (v1)), o2, some (.int (v3)), o4], [.int (w0)], (hp M J R 38 43 nL xs D)) =
    px_bd (X 61 [.ref 37] (hp M J R 38 43 nL xs D))
    (fun v G1 => px_p (kX5_readSum X) 52 3 ([some (.ref 37), some (.int (v1)), none, some (.int (v3)), some (.int (w0))], px_psh v [], G1)) := (px_run_eq _ _ _).trans rfl
set_option maxRecDepth 40000 in
theorem eX5_readSum_38_52_3 (X : px_X) (M : Nat → Nat → Int32) (J : Nat → Nat → Int64) (R : Nat → Nat → Option Nat) (nL : Nat) (xs : Nat → Int32) (D : px_H) (v1 : Int32) (v3 : Int32) (v4 : Int32) : px_p (kX5_readSum X) 52 3 ([some (.ref 37), some (.int (v1)), none, some (.int (v3)), some (.int (v4))], [], (hp M J R 38 43 nL xs D)) =
    px_bd (X 57 [.ref 37, .int (v1)] (hp M J R 38 43 nL xs D))
    (fun v G1 => px_p (kX5_readSum X) 52 6 ([some (.ref 37), some (.int (v1)), none, some (.int (v3)), some (.int (v4))], px_psh v [], G1)) := rfl
set_option maxRecDepth 40000 in
theorem eX5_readSum_38_52_6 (X : px_X) (M : Nat → Nat → Int32) (J : Nat → Nat → Int64) (R : Nat → Nat → Option Nat) (nL : Nat) (xs : Nat → Int32) (D : px_H) (v1 : Int32) (v3 : Int32) (v4 : Int32) (w0 : Int32) : px_p (kX5_readSum X) 52 6 ([some (.ref 37), some (.int (v1)), none, some (.int (v3)), some (.int (v4))], [.int (w0)], (hp M J R 38 43 nL xs D)) =
    px_bd (X 40 [.ref 43, .int (v4), .int (0)] (hp M J R 38 43 nL xs D))
    (fun v G1 => px_p (kX5_readSum X) 52 12 ([some (.ref 37), some (.int (v1)), some (.int (w0)), some (.int (v3)), some (.int (v4))], px_psh v [], G1)) := rfl
set_option maxRecDepth 40000 in
theorem eX5_readSum_38_52_12 (X : px_X) (M : Nat → Nat → Int32) (J : Nat → Nat → Int64) (R : Nat → Nat → Option Nat) (nL : Nat) (xs : Nat → Int32) (D : px_H) (v1 : Int32) (v2 : Int32) (v3 : Int32) (v4 : Int32) : px_p (kX5_readSum X) 52 12 ([some (.ref 37), some (.int (v1)), some (.int (v2)), some (.int (v3)), some (.int (v4))], [], (hp M J R 38 43 nL xs D)) =
    px_run (px_mk (kX5_readSum X)) 8 ([some (.ref 37), some (.int (v1)), some (.int (v2)), some (.int ((v3 + 1))), some (.int (v4))], [], (hp M J R 38 43 nL xs D)) := rfl
set_option maxRecDepth 40000 in
theorem eX5_readSum_43_0 (X : px_X) (M : Nat → Nat → Int32) (J : Nat → Nat → Int64) (R : Nat → Nat → Option Nat) (nL : Nat) (xs : Nat → Int32) (D : px_H) (v1 : Int32) : px_run (px_mk (kX5_readSum X)) 0 ([some (.ref 37), some (.int (v1)), none, none, none], [], (hp M J R 43 38 nL xs D)) =
    px_bd (X 57 [.ref 37, .int (v1)] (hp M J R 43 38 nL xs D))
    (fun v G1 => px_p (kX5_readSum X) 0 3 ([some (.ref 37), some (.int (v1)), none, none, none], px_psh v [], G1)) := (px_run_eq _ _ _).trans rfl
set_option maxRecDepth 40000 in
theorem eX5_readSum_43_0_3 (X : px_X) (M : Nat → Nat → Int32) (J : Nat → Nat → Int64) (R : Nat → Nat → Option Nat) (nL : Nat) (xs : Nat → Int32) (D : px_H) (v1 : Int32) (w0 : Int32) : px_p (kX5_readSum X) 0 3 ([some (.ref 37), some (.int (v1)), none, none, none], [.int (w0)], (hp M J R 43 38 nL xs D)) =
    px_run (px_mk (kX5_readSum X)) 8 ([some (.ref 37), some (.int (v1)), some (.int (w0)), some (.int (0)), none], [], (hp M J R 43 38 nL xs D)) := rfl
set_option maxRecDepth 40000 in
theorem eX5_readSum_43_8 (X : px_X) (M : Nat → Nat → Int32) (J : Nat → Nat → Int64) (R : Nat → Nat → Option Nat) (nL : Nat) (xs : Nat → Int32) (D : px_H) (v1 : Int32) (v2 : Int32) (v3 : Int32) (o4 : Option Value) : px_run (px_mk (kX5_readSum X)) 8 ([some (.ref 37), some (.int (v1)), some (.int (v2)), some (.int (v3)), o4], [], (hp M J R 43 38 nL xs D)) =
    cond (decide (160 ≤ v3))
    (px_run (px_mk (kX5_readSum X)) 80 ([some (.ref 37), some (.int (v1)), some (.int (v2)), some (.int (v3)), none], [], (hp M J R 43 38 nL xs D)))
    (cond (decide (v2 = 0))
    (px_run (px_mk (kX5_readSum X)) 80 ([some (.ref 37), some (.int (v1)), some (.int (v2)), some (.int (v3)), none], [], (hp M J R 43 38 nL xs D)))
    (cond (decide (M 37 6 = 43))
    (px_run (px_mk (kX5_readSum X)) 37 ([some (.ref 37), some (.int (v1)), some (.int (v2)), some (.int (v3)), none], [], (hp M J R 43 38 nL xs D)))
    (cond (decide (¬ M 37 6 = 45))
    (px_run (px_mk (kX5_readSum X)) 80 ([some (.ref 37), some (.int (v1)), some (.int (v2)), some (.int (v3)), none], [], (hp M J R 43 38 nL xs D)))
    (px_run (px_mk (kX5_readSum X)) 37 ([some (.ref 37), some (.int (v1)), some (.int (v2)), some (.int (v3)), none], [], (hp M J R 43 38 nL xs D)))))) := (px_run_eq _ _ _).trans rfl
set_option maxRecDepth 40000 in
theorem eX5_readSum_43_80 (X : px_X) (M : Nat → Nat → Int32) (J : Nat → Nat → Int64) (R : Nat → Nat → Option Nat) (nL : Nat) (xs : Nat → Int32) (D : px_H) (o0 : Option Value) (o1 : Option Value) (v2 : Int32) (o3 : Option Value) (o4 : Option Value) : px_run (px_mk (kX5_readSum X)) 80 ([o0, o1, some (.int (v2)), o3, o4], [], (hp M J R 43 38 nL xs D)) =
    cond (decide (v2 = 0) || decide (v2 = 1)) (some (some (.int (v2)), (hp M J R 43 38 nL xs D))) none := (px_run_eq _ _ _).trans rfl
set_option maxRecDepth 40000 in
theorem eX5_readSum_43_37 (X : px_X) (M : Nat → Nat → Int32) (J : Nat → Nat → Int64) (R : Nat → Nat → Option Nat) (nL : Nat) (xs : Nat → Int32) (D : px_H) (v1 : Int32) (o2 : Option Value) (v3 : Int32) (o4 : Option Value) : px_run (px_mk (kX5_readSum X)) 37 ([some (.ref 37), some (.int (v1)), o2, some (.int (v3)), o4], [], (hp M J R 43 38 nL xs D)) =
    cond (decide (¬ M 37 6 = 43))
    (px_run (px_mk (kX5_readSum X)) 50 ([some (.ref 37), some (.int (v1)), none, some (.int (v3)), none], [], (hp M J R 43 38 nL xs D)))
    (px_run (px_mk (kX5_readSum X)) 52 ([some (.ref 37), some (.int (v1)), none, some (.int (v3)), none], [.int (5)], (hp M J R 43 38 nL xs D))) := (px_run_eq _ _ _).trans rfl
set_option maxRecDepth 40000 in
theorem eX5_readSum_43_50 (X : px_X) (M : Nat → Nat → Int32) (J : Nat → Nat → Int64) (R : Nat → Nat → Option Nat) (nL : Nat) (xs : Nat → Int32) (D : px_H) (v1 : Int32) (o2 : Option Value) (v3 : Int32) (o4 : Option Value) : px_run (px_mk (kX5_readSum X)) 50 ([some (.ref 37), some (.int (v1)), o2, some (.int (v3)), o4], [], (hp M J R 43 38 nL xs D)) =
    px_run (px_mk (kX5_readSum X)) 52 ([some (.ref 37), some (.int (v1)), none, some (.int (v3)), none], [.int (6)], (hp M J R 43 38 nL xs D)) := (px_run_eq _ _ _).trans rfl
set_option maxRecDepth 40000 in
theorem eX5_readSum_43_52 (X : px_X) (M : Nat → Nat → Int32) (J : Nat → Nat → Int64) (R : Nat → Nat → Option Nat) (nL : Nat) (xs : Nat → Int32) (D : px_H) (v1 : Int32) (o2 : Option Value) (v3 : Int32) (o4 : Option Value) (w0 : Int32) : px_run (px_mk (kX5_readSum X)) 52 ([some (.ref 37), some (.int (v1)), o2, some (.int (v3)), o4], [.int (w0)], (hp M J R 43 38 nL xs D)) =
    px_bd (X 61 [.ref 37] (hp M J R 43 38 nL xs D))
    (fun v G1 => px_p (kX5_readSum X) 52 3 ([some (.ref 37), some (.int (v1)), none, some (.int (v3)), some (.int (w0))], px_psh v [], G1)) := (px_run_eq _ _ _).trans rfl
set_option maxRecDepth 40000 in
theorem eX5_readSum_43_52_3 (X : px_X) (M : Nat → Nat → Int32) (J : Nat → Nat → Int64) (R : Nat → Nat → Option Nat) (nL : Nat) (xs : Nat → Int32) (D : px_H) (v1 : Int32) (v3 : Int32) (v4 : Int32) : px_p (kX5_readSum X) 52 3 ([some (.ref 37), some (.int (v1)), none, some (.int (v3)), some (.int (v4))], [], (hp M J R 43 38 nL xs D)) =
    px_bd (X 57 [.ref 37, .int (v1)] (hp M J R 43 38 nL xs D))
    (fun v G1 => px_p (kX5_readSum X) 52 6 ([some (.ref 37), some (.int (v1)), none, some (.int (v3)), some (.int (v4))], px_psh v [], G1)) := rfl
set_option maxRecDepth 40000 in
theorem eX5_readSum_43_52_6 (X : px_X) (M : Nat → Nat → Int32) (J : Nat → Nat → Int64) (R : Nat → Nat → Option Nat) (nL : Nat) (xs : Nat → Int32) (D : px_H) (v1 : Int32) (v3 : Int32) (v4 : Int32) (w0 : Int32) : px_p (kX5_readSum X) 52 6 ([some (.ref 37), some (.int (v1)), none, some (.int (v3)), some (.int (v4))], [.int (w0)], (hp M J R 43 38 nL xs D)) =
    px_bd (X 40 [.ref 38, .int (v4), .int (0)] (hp M J R 43 38 nL xs D))
    (fun v G1 => px_p (kX5_readSum X) 52 12 ([some (.ref 37), some (.int (v1)), some (.int (w0)), some (.int (v3)), some (.int (v4))], px_psh v [], G1)) := rfl
set_option maxRecDepth 40000 in
theorem eX5_readSum_43_52_12 (X : px_X) (M : Nat → Nat → Int32) (J : Nat → Nat → Int64) (R : Nat → Nat → Option Nat) (nL : Nat) (xs : Nat → Int32) (D : px_H) (v1 : Int32) (v2 : Int32) (v3 : Int32) (v4 : Int32) : px_p (kX5_readSum X) 52 12 ([some (.ref 37), some (.int (v1)), some (.int (v2)), some (.int (v3)), some (.int (v4))], [], (hp M J R 43 38 nL xs D)) =
    px_run (px_mk (kX5_readSum X)) 8 ([some (.ref 37), some (.int (v1)), some (.int (v2)), some (.int ((v3 + 1))), some (.int (v4))], [], (hp M J R 43 38 nL xs D)) := rfl
set_option maxRecDepth 40000 in
theorem eX5_readTerm_38_0 (X : px_X) (M : Nat → Nat → Int32) (J : Nat → Nat → Int64) (R : Nat → Nat → Option Nat) (nL : Nat) (xs : Nat → Int32) (D : px_H) (v1 : Int32) : px_run (px_mk (kX5_readTerm X)) 0 ([some (.ref 37), some (.int (v1)), none, none], [], (hp M J R 38 43 nL xs D)) =
    px_bd (X 58 [.ref 37, .int (v1)] (hp M J R 38 43 nL xs D))
    (fun v G1 => px_p (kX5_readTerm X) 0 3 ([some (.ref 37), some (.int (v1)), none, none], px_psh v [], G1)) := (px_run_eq _ _ _).trans rfl
set_option maxRecDepth 40000 in
theorem eX5_readTerm_38_0_3 (X : px_X) (M : Nat → Nat → Int32) (J : Nat → Nat → Int64) (R : Nat → Nat → Option Nat) (nL : Nat) (xs : Nat → Int32) (D : px_H) (v1 : Int32) (w0 : Int32) : px_p (kX5_readTerm X) 0 3 ([some (.ref 37), some (.int (v1)), none, none], [.int (w0)], (hp M J R 38 43 nL xs D)) =
    px_run (px_mk (kX5_readTerm X)) 8 ([some (.ref 37), some (.int (v1)), some (.int (w0)), some (.int (0))], [], (hp M J R 38 43 nL xs D)) := rfl
set_option maxRecDepth 40000 in
theorem eX5_readTerm_38_8 (X : px_X) (M : Nat → Nat → Int32) (J : Nat → Nat → Int64) (R : Nat → Nat → Option Nat) (nL : Nat) (xs : Nat → Int32) (D : px_H) (v1 : Int32) (v2 : Int32) (v3 : Int32) : px_run (px_mk (kX5_readTerm X)) 8 ([some (.ref 37), some (.int (v1)), some (.int (v2)), some (.int (v3))], [], (hp M J R 38 43 nL xs D)) =
    cond (decide (160 ≤ v3))
    (px_run (px_mk (kX5_readTerm X)) 53 ([some (.ref 37), some (.int (v1)), some (.int (v2)), some (.int (v3))], [], (hp M J R 38 43 nL xs D)))
    (cond (decide (v2 = 0))
    (px_run (px_mk (kX5_readTerm X)) 53 ([some (.ref 37), some (.int (v1)), some (.int (v2)), some (.int (v3))], [], (hp M J R 38 43 nL xs D)))
    (cond (decide (¬ M 37 6 = 42))
    (px_run (px_mk (kX5_readTerm X)) 53 ([some (.ref 37), some (.int (v1)), some (.int (v2)), some (.int (v3))], [], (hp M J R 38 43 nL xs D)))
    (px_bd (X 61 [.ref 37] (hp M J R 38 43 nL xs D))
    (fun v G1 => px_p (kX5_readTerm X) 8 11 ([some (.ref 37), some (.int (v1)), some (.int (v2)), some (.int (v3))], px_psh v [], G1))))) := (px_run_eq _ _ _).trans rfl
set_option maxRecDepth 40000 in
theorem eX5_readTerm_38_53 (X : px_X) (M : Nat → Nat → Int32) (J : Nat → Nat → Int64) (R : Nat → Nat → Option Nat) (nL : Nat) (xs : Nat → Int32) (D : px_H) (o0 : Option Value) (o1 : Option Value) (v2 : Int32) (o3 : Option Value) : px_run (px_mk (kX5_readTerm X)) 53 ([o0, o1, some (.int (v2)), o3], [], (hp M J R 38 43 nL xs D)) =
    cond (decide (v2 = 0) || decide (v2 = 1)) (some (some (.int (v2)), (hp M J R 38 43 nL xs D))) none := (px_run_eq _ _ _).trans rfl
set_option maxRecDepth 40000 in
theorem eX5_readTerm_38_8_11 (X : px_X) (M : Nat → Nat → Int32) (J : Nat → Nat → Int64) (R : Nat → Nat → Option Nat) (nL : Nat) (xs : Nat → Int32) (D : px_H) (v1 : Int32) (v2 : Int32) (v3 : Int32) : px_p (kX5_readTerm X) 8 11 ([some (.ref 37), some (.int (v1)), some (.int (v2)), some (.int (v3))], [], (hp M J R 38 43 nL xs D)) =
    px_bd (X 58 [.ref 37, .int (v1)] (hp M J R 38 43 nL xs D))
    (fun v G1 => px_p (kX5_readTerm X) 8 14 ([some (.ref 37), some (.int (v1)), some (.int (v2)), some (.int (v3))], px_psh v [], G1)) := rfl
set_option maxRecDepth 40000 in
theorem eX5_readTerm_38_8_14 (X : px_X) (M : Nat → Nat → Int32) (J : Nat → Nat → Int64) (R : Nat → Nat → Option Nat) (nL : Nat) (xs : Nat → Int32) (D : px_H) (v1 : Int32) (v2 : Int32) (v3 : Int32) (w0 : Int32) : px_p (kX5_readTerm X) 8 14 ([some (.ref 37), some (.int (v1)), some (.int (v2)), some (.int (v3))], [.int (w0)], (hp M J R 38 43 nL xs D)) =
    px_bd (X 40 [.ref 43, .int (4), .int (0)] (hp M J R 38 43 nL xs D))
    (fun v G1 => px_p (kX5_readTerm X) 8 20 ([some (.ref 37), some (.int (v1)), some (.int (w0)), some (.int (v3))], px_psh v [], G1)) := rfl
set_option maxRecDepth 40000 in
theorem eX5_readTerm_38_8_20 (X : px_X) (M : Nat → Nat → Int32) (J : Nat → Nat → Int64) (R : Nat → Nat → Option Nat) (nL : Nat) (xs : Nat → Int32) (D : px_H) (v1 : Int32) (v2 : Int32) (v3 : Int32) : px_p (kX5_readTerm X) 8 20 ([some (.ref 37), some (.int (v1)), some (.int (v2)), some (.int (v3))], [], (hp M J R 38 43 nL xs D)) =
    px_run (px_mk (kX5_readTerm X)) 8 ([some (.ref 37), some (.int (v1)), some (.int (v2)), some (.int ((v3 + 1)))], [], (hp M J R 38 43 nL xs D)) := rfl
set_option maxRecDepth 40000 in
theorem eX5_readTerm_43_0 (X : px_X) (M : Nat → Nat → Int32) (J : Nat → Nat → Int64) (R : Nat → Nat → Option Nat) (nL : Nat) (xs : Nat → Int32) (D : px_H) (v1 : Int32) : px_run (px_mk (kX5_readTerm X)) 0 ([some (.ref 37), some (.int (v1)), none, none], [], (hp M J R 43 38 nL xs D)) =
    px_bd (X 58 [.ref 37, .int (v1)] (hp M J R 43 38 nL xs D))
    (fun v G1 => px_p (kX5_readTerm X) 0 3 ([some (.ref 37), some (.int (v1)), none, none], px_psh v [], G1)) := (px_run_eq _ _ _).trans rfl
set_option maxRecDepth 40000 in
theorem eX5_readTerm_43_0_3 (X : px_X) (M : Nat → Nat → Int32) (J : Nat → Nat → Int64) (R : Nat → Nat → Option Nat) (nL : Nat) (xs : Nat → Int32) (D : px_H) (v1 : Int32) (w0 : Int32) : px_p (kX5_readTerm X) 0 3 ([some (.ref 37), some (.int (v1)), none, none], [.int (w0)], (hp M J R 43 38 nL xs D)) =
    px_run (px_mk (kX5_readTerm X)) 8 ([some (.ref 37), some (.int (v1)), some (.int (w0)), some (.int (0))], [], (hp M J R 43 38 nL xs D)) := rfl
set_option maxRecDepth 40000 in
theorem eX5_readTerm_43_8 (X : px_X) (M : Nat → Nat → Int32) (J : Nat → Nat → Int64) (R : Nat → Nat → Option Nat) (nL : Nat) (xs : Nat → Int32) (D : px_H) (v1 : Int32) (v2 : Int32) (v3 : Int32) : px_run (px_mk (kX5_readTerm X)) 8 ([some (.ref 37), some (.int (v1)), some (.int (v2)), some (.int (v3))], [], (hp M J R 43 38 nL xs D)) =
    cond (decide (160 ≤ v3))
    (px_run (px_mk (kX5_readTerm X)) 53 ([some (.ref 37), some (.int (v1)), some (.int (v2)), some (.int (v3))], [], (hp M J R 43 38 nL xs D)))
    (cond (decide (v2 = 0))
    (px_run (px_mk (kX5_readTerm X)) 53 ([some (.ref 37), some (.int (v1)), some (.int (v2)), some (.int (v3))], [], (hp M J R 43 38 nL xs D)))
    (cond (decide (¬ M 37 6 = 42))
    (px_run (px_mk (kX5_readTerm X)) 53 ([some (.ref 37), some (.int (v1)), some (.int (v2)), some (.int (v3))], [], (hp M J R 43 38 nL xs D)))
    (px_bd (X 61 [.ref 37] (hp M J R 43 38 nL xs D))
    (fun v G1 => px_p (kX5_readTerm X) 8 11 ([some (.ref 37), some (.int (v1)), some (.int (v2)), some (.int (v3))], px_psh v [], G1))))) := (px_run_eq _ _ _).trans rfl
set_option maxRecDepth 40000 in
theorem eX5_readTerm_43_53 (X : px_X) (M : Nat → Nat → Int32) (J : Nat → Nat → Int64) (R : Nat → Nat → Option Nat) (nL : Nat) (xs : Nat → Int32) (D : px_H) (o0 : Option Value) (o1 : Option Value) (v2 : Int32) (o3 : Option Value) : px_run (px_mk (kX5_readTerm X)) 53 ([o0, o1, some (.int (v2)), o3], [], (hp M J R 43 38 nL xs D)) =
    cond (decide (v2 = 0) || decide (v2 = 1)) (some (some (.int (v2)), (hp M J R 43 38 nL xs D))) none := (px_run_eq _ _ _).trans rfl
set_option maxRecDepth 40000 in
theorem eX5_readTerm_43_8_11 (X : px_X) (M : Nat → Nat → Int32) (J : Nat → Nat → Int64) (R : Nat → Nat → Option Nat) (nL : Nat) (xs : Nat → Int32) (D : px_H) (v1 : Int32) (v2 : Int32) (v3 : Int32) : px_p (kX5_readTerm X) 8 11 ([some (.ref 37), some (.int (v1)), some (.int (v2)), some (.int (v3))], [], (hp M J R 43 38 nL xs D)) =
    px_bd (X 58 [.ref 37, .int (v1)] (hp M J R 43 38 nL xs D))
    (fun v G1 => px_p (kX5_readTerm X) 8 14 ([some (.ref 37), some (.int (v1)), some (.int (v2)), some (.int (v3))], px_psh v [], G1)) := rfl
set_option maxRecDepth 40000 in
theorem eX5_readTerm_43_8_14 (X : px_X) (M : Nat → Nat → Int32) (J : Nat → Nat → Int64) (R : Nat → Nat → Option Nat) (nL : Nat) (xs : Nat → Int32) (D : px_H) (v1 : Int32) (v2 : Int32) (v3 : Int32) (w0 : Int32) : px_p (kX5_readTerm X) 8 14 ([some (.ref 37), some (.int (v1)), some (.int (v2)), some (.int (v3))], [.int (w0)], (hp M J R 43 38 nL xs D)) =
    px_bd (X 40 [.ref 38, .int (4), .int (0)] (hp M J R 43 38 nL xs D))
    (fun v G1 => px_p (kX5_readTerm X) 8 20 ([some (.ref 37), some (.int (v1)), some (.int (w0)), some (.int (v3))], px_psh v [], G1)) := rfl
set_option maxRecDepth 40000 in
theorem eX5_readTerm_43_8_20 (X : px_X) (M : Nat → Nat → Int32) (J : Nat → Nat → Int64) (R : Nat → Nat → Option Nat) (nL : Nat) (xs : Nat → Int32) (D : px_H) (v1 : Int32) (v2 : Int32) (v3 : Int32) : px_p (kX5_readTerm X) 8 20 ([some (.ref 37), some (.int (v1)), some (.int (v2)), some (.int (v3))], [], (hp M J R 43 38 nL xs D)) =
    px_run (px_mk (kX5_readTerm X)) 8 ([some (.ref 37), some (.int (v1)), some (.int (v2)), some (.int ((v3 + 1)))], [], (hp M J R 43 38 nL xs D)) := rfl
set_option maxRecDepth 40000 in
theorem eX5_readOne_38_0 (X : px_X) (M : Nat → Nat → Int32) (J : Nat → Nat → Int64) (R : Nat → Nat → Option Nat) (nL : Nat) (xs : Nat → Int32) (D : px_H) (v1 : Int32) : px_run (px_mk (kX5_readOne X)) 0 ([some (.ref 37), some (.int (v1))], [], (hp M J R 38 43 nL xs D)) =
    cond (decide (M 37 6 = 2))
    (px_run (px_mk (kX5_readOne X)) 16 ([some (.ref 37), some (.int (v1))], [], (hp M J R 38 43 nL xs D)))
    (cond (decide (¬ M 37 6 = 3))
    (px_run (px_mk (kX5_readOne X)) 46 ([some (.ref 37), some (.int (v1))], [], (hp M J R 38 43 nL xs D)))
    (px_run (px_mk (kX5_readOne X)) 16 ([some (.ref 37), some (.int (v1))], [], (hp M J R 38 43 nL xs D)))) := (px_run_eq _ _ _).trans rfl
set_option maxRecDepth 40000 in
theorem eX5_readOne_38_16 (X : px_X) (M : Nat → Nat → Int32) (J : Nat → Nat → Int64) (R : Nat → Nat → Option Nat) (nL : Nat) (xs : Nat → Int32) (D : px_H) (o1 : Option Value) : px_run (px_mk (kX5_readOne X)) 16 ([some (.ref 37), o1], [], (hp M J R 38 43 nL xs D)) =
    cond (decide (¬ M 37 6 = 2))
    (px_run (px_mk (kX5_readOne X)) 32 ([some (.ref 37), none], [.ref 43], (hp M J R 38 43 nL xs D)))
    (px_run (px_mk (kX5_readOne X)) 33 ([some (.ref 37), none], [.int (0), .ref 43], (hp M J R 38 43 nL xs D))) := (px_run_eq _ _ _).trans rfl
set_option maxRecDepth 40000 in
theorem eX5_readOne_38_46 (X : px_X) (M : Nat → Nat → Int32) (J : Nat → Nat → Int64) (R : Nat → Nat → Option Nat) (nL : Nat) (xs : Nat → Int32) (D : px_H) (v1 : Int32) : px_run (px_mk (kX5_readOne X)) 46 ([some (.ref 37), some (.int (v1))], [], (hp M J R 38 43 nL xs D)) =
    cond (decide (M 37 6 = 45))
    (px_run (px_mk (kX5_readOne X)) 64 ([some (.ref 37), some (.int (v1))], [], (hp M J R 38 43 nL xs D)))
    (cond (decide (¬ M 37 6 = 40))
    (px_run (px_mk (kX5_readOne X)) 69 ([some (.ref 37), some (.int (v1))], [], (hp M J R 38 43 nL xs D)))
    (px_run (px_mk (kX5_readOne X)) 64 ([some (.ref 37), some (.int (v1))], [], (hp M J R 38 43 nL xs D)))) := (px_run_eq _ _ _).trans rfl
set_option maxRecDepth 40000 in
theorem eX5_readOne_38_32 (X : px_X) (M : Nat → Nat → Int32) (J : Nat → Nat → Int64) (R : Nat → Nat → Option Nat) (nL : Nat) (xs : Nat → Int32) (D : px_H) (o1 : Option Value) : px_run (px_mk (kX5_readOne X)) 32 ([some (.ref 37), o1], [.ref 43], (hp M J R 38 43 nL xs D)) =
    px_run (px_mk (kX5_readOne X)) 33 ([some (.ref 37), none], [.int (1), .ref 43], (hp M J R 38 43 nL xs D)) := (px_run_eq _ _ _).trans rfl
set_option maxRecDepth 40000 in
theorem eX5_readOne_38_33 (X : px_X) (M : Nat → Nat → Int32) (J : Nat → Nat → Int64) (R : Nat → Nat → Option Nat) (nL : Nat) (xs : Nat → Int32) (D : px_H) (o1 : Option Value) (w1 : Int32) : px_run (px_mk (kX5_readOne X)) 33 ([some (.ref 37), o1], [.int (w1), .ref 43], (hp M J R 38 43 nL xs D)) =
    px_bd (X 40 [.ref 43, .int (w1), .int (M 37 7)] (hp M J R 38 43 nL xs D))
    (fun v G1 => px_p (kX5_readOne X) 33 3 ([some (.ref 37), none], px_psh v [], G1)) := (px_run_eq _ _ _).trans rfl
set_option maxRecDepth 40000 in
theorem eX5_readOne_38_64 (X : px_X) (M : Nat → Nat → Int32) (J : Nat → Nat → Int64) (R : Nat → Nat → Option Nat) (nL : Nat) (xs : Nat → Int32) (D : px_H) (v1 : Int32) : px_run (px_mk (kX5_readOne X)) 64 ([some (.ref 37), some (.int (v1))], [], (hp M J R 38 43 nL xs D)) =
    cond (decide (v1 < 5))
    (px_run (px_mk (kX5_readOne X)) 71 ([some (.ref 37), some (.int (v1))], [], (hp M J R 38 43 nL xs D)))
    (px_run (px_mk (kX5_readOne X)) 69 ([some (.ref 37), some (.int (v1))], [], (hp M J R 38 43 nL xs D))) := (px_run_eq _ _ _).trans rfl
set_option maxRecDepth 40000 in
theorem eX5_readOne_38_69 (X : px_X) (M : Nat → Nat → Int32) (J : Nat → Nat → Int64) (R : Nat → Nat → Option Nat) (nL : Nat) (xs : Nat → Int32) (D : px_H) (o0 : Option Value) (o1 : Option Value) : px_run (px_mk (kX5_readOne X)) 69 ([o0, o1], [], (hp M J R 38 43 nL xs D)) =
    some (some (.int (0)), (hp M J R 38 43 nL xs D)) := (px_run_eq _ _ _).trans rfl
set_option maxRecDepth 40000 in
theorem eX5_readOne_38_33_3 (X : px_X) (M : Nat → Nat → Int32) (J : Nat → Nat → Int64) (R : Nat → Nat → Option Nat) (nL : Nat) (xs : Nat → Int32) (D : px_H)  : px_p (kX5_readOne X) 33 3 ([some (.ref 37), none], [], (hp M J R 38 43 nL xs D)) =
    px_bd (X 61 [.ref 37] (hp M J R 38 43 nL xs D))
    (fun v G1 => px_p (kX5_readOne X) 33 5 ([some (.ref 37), none], px_psh v [], G1)) := rfl
set_option maxRecDepth 40000 in
theorem eX5_readOne_38_71 (X : px_X) (M : Nat → Nat → Int32) (J : Nat → Nat → Int64) (R : Nat → Nat → Option Nat) (nL : Nat) (xs : Nat → Int32) (D : px_H) (v1 : Int32) : px_run (px_mk (kX5_readOne X)) 71 ([some (.ref 37), some (.int (v1))], [], (hp M J R 38 43 nL xs D)) =
    cond (decide (¬ M 37 6 = 45))
    (px_run (px_mk (kX5_readOne X)) 90 ([some (.ref 37), some (.int (v1))], [], (hp M J R 38 43 nL xs D)))
    (px_bd (X 59 [.ref 37, .int ((v1 + 1))] (hp M J R 38 43 nL xs D))
    (fun v G1 => px_p (kX5_readOne X) 71 9 ([some (.ref 37), some (.int (v1))], px_psh v [], G1))) := (px_run_eq _ _ _).trans rfl
set_option maxRecDepth 40000 in
theorem eX5_readOne_38_33_5 (X : px_X) (M : Nat → Nat → Int32) (J : Nat → Nat → Int64) (R : Nat → Nat → Option Nat) (nL : Nat) (xs : Nat → Int32) (D : px_H)  : px_p (kX5_readOne X) 33 5 ([some (.ref 37), none], [], (hp M J R 38 43 nL xs D)) =
    some (some (.int (1)), (hp M J R 38 43 nL xs D)) := rfl
set_option maxRecDepth 40000 in
theorem eX5_readOne_38_90_5 (X : px_X) (st : px_S) : px_p (kX5_readOne X) 90 5 st = px_run (px_mk (kX5_readOne X)) 97 st := rfl
set_option maxRecDepth 40000 in
theorem eX5_readOne_38_90 (X : px_X) (M : Nat → Nat → Int32) (J : Nat → Nat → Int64) (R : Nat → Nat → Option Nat) (nL : Nat) (xs : Nat → Int32) (D : px_H) (v1 : Int32) : px_run (px_mk (kX5_readOne X)) 90 ([some (.ref 37), some (.int (v1))], [], (hp M J R 38 43 nL xs D)) =
    px_bd (X 60 [.ref 37, .int ((v1 + 1))] (hp M J R 38 43 nL xs D))
    (fun v G1 => px_p (kX5_readOne X) 90 5 ([some (.ref 37), some (.int (v1))], px_psh v [], G1)) := (px_run_eq _ _ _).trans rfl
set_option maxRecDepth 40000 in
theorem eX5_readOne_38_71_9 (X : px_X) (M : Nat → Nat → Int32) (J : Nat → Nat → Int64) (R : Nat → Nat → Option Nat) (nL : Nat) (xs : Nat → Int32) (D : px_H) (v1 : Int32) (w0 : Int32) : px_p (kX5_readOne X) 71 9 ([some (.ref 37), some (.int (v1))], [.int (w0)], (hp M J R 38 43 nL xs D)) =
    px_run (px_mk (kX5_readOne X)) 97 ([some (.ref 37), some (.int (v1))], [.int (w0)], (hp M J R 38 43 nL xs D)) := rfl
set_option maxRecDepth 40000 in
theorem eX5_readOne_38_97 (X : px_X) (M : Nat → Nat → Int32) (J : Nat → Nat → Int64) (R : Nat → Nat → Option Nat) (nL : Nat) (xs : Nat → Int32) (D : px_H) (o0 : Option Value) (o1 : Option Value) (w0 : Int32) : px_run (px_mk (kX5_readOne X)) 97 ([o0, o1], [.int (w0)], (hp M J R 38 43 nL xs D)) =
    cond (decide (w0 = 0) || decide (w0 = 1)) (some (some (.int (w0)), (hp M J R 38 43 nL xs D))) none := (px_run_eq _ _ _).trans rfl
set_option maxRecDepth 40000 in
theorem eX5_readOne_43_0 (X : px_X) (M : Nat → Nat → Int32) (J : Nat → Nat → Int64) (R : Nat → Nat → Option Nat) (nL : Nat) (xs : Nat → Int32) (D : px_H) (v1 : Int32) : px_run (px_mk (kX5_readOne X)) 0 ([some (.ref 37), some (.int (v1))], [], (hp M J R 43 38 nL xs D)) =
    cond (decide (M 37 6 = 2))
    (px_run (px_mk (kX5_readOne X)) 16 ([some (.ref 37), some (.int (v1))], [], (hp M J R 43 38 nL xs D)))
    (cond (decide (¬ M 37 6 = 3))
    (px_run (px_mk (kX5_readOne X)) 46 ([some (.ref 37), some (.int (v1))], [], (hp M J R 43 38 nL xs D)))
    (px_run (px_mk (kX5_readOne X)) 16 ([some (.ref 37), some (.int (v1))], [], (hp M J R 43 38 nL xs D)))) := (px_run_eq _ _ _).trans rfl
set_option maxRecDepth 40000 in
theorem eX5_readOne_43_16 (X : px_X) (M : Nat → Nat → Int32) (J : Nat → Nat → Int64) (R : Nat → Nat → Option Nat) (nL : Nat) (xs : Nat → Int32) (D : px_H) (o1 : Option Value) : px_run (px_mk (kX5_readOne X)) 16 ([some (.ref 37), o1], [], (hp M J R 43 38 nL xs D)) =
    cond (decide (¬ M 37 6 = 2))
    (px_run (px_mk (kX5_readOne X)) 32 ([some (.ref 37), none], [.ref 38], (hp M J R 43 38 nL xs D)))
    (px_run (px_mk (kX5_readOne X)) 33 ([some (.ref 37), none], [.int (0), .ref 38], (hp M J R 43 38 nL xs D))) := (px_run_eq _ _ _).trans rfl
set_option maxRecDepth 40000 in
theorem eX5_readOne_43_46 (X : px_X) (M : Nat → Nat → Int32) (J : Nat → Nat → Int64) (R : Nat → Nat → Option Nat) (nL : Nat) (xs : Nat → Int32) (D : px_H) (v1 : Int32) : px_run (px_mk (kX5_readOne X)) 46 ([some (.ref 37), some (.int (v1))], [], (hp M J R 43 38 nL xs D)) =
    cond (decide (M 37 6 = 45))
    (px_run (px_mk (kX5_readOne X)) 64 ([some (.ref 37), some (.int (v1))], [], (hp M J R 43 38 nL xs D)))
    (cond (decide (¬ M 37 6 = 40))
    (px_run (px_mk (kX5_readOne X)) 69 ([some (.ref 37), some (.int (v1))], [], (hp M J R 43 38 nL xs D)))
    (px_run (px_mk (kX5_readOne X)) 64 ([some (.ref 37), some (.int (v1))], [], (hp M J R 43 38 nL xs D)))) := (px_run_eq _ _ _).trans rfl
set_option maxRecDepth 40000 in
theorem eX5_readOne_43_32 (X : px_X) (M : Nat → Nat → Int32) (J : Nat → Nat → Int64) (R : Nat → Nat → Option Nat) (nL : Nat) (xs : Nat → Int32) (D : px_H) (o1 : Option Value) : px_run (px_mk (kX5_readOne X)) 32 ([some (.ref 37), o1], [.ref 38], (hp M J R 43 38 nL xs D)) =
    px_run (px_mk (kX5_readOne X)) 33 ([some (.ref 37), none], [.int (1), .ref 38], (hp M J R 43 38 nL xs D)) := (px_run_eq _ _ _).trans rfl
set_option maxRecDepth 40000 in
theorem eX5_readOne_43_33 (X : px_X) (M : Nat → Nat → Int32) (J : Nat → Nat → Int64) (R : Nat → Nat → Option Nat) (nL : Nat) (xs : Nat → Int32) (D : px_H) (o1 : Option Value) (w1 : Int32) : px_run (px_mk (kX5_readOne X)) 33 ([some (.ref 37), o1], [.int (w1), .ref 38], (hp M J R 43 38 nL xs D)) =
    px_bd (X 40 [.ref 38, .int (w1), .int (M 37 7)] (hp M J R 43 38 nL xs D))
    (fun v G1 => px_p (kX5_readOne X) 33 3 ([some (.ref 37), none], px_psh v [], G1)) := (px_run_eq _ _ _).trans rfl
set_option maxRecDepth 40000 in
theorem eX5_readOne_43_64 (X : px_X) (M : Nat → Nat → Int32) (J : Nat → Nat → Int64) (R : Nat → Nat → Option Nat) (nL : Nat) (xs : Nat → Int32) (D : px_H) (v1 : Int32) : px_run (px_mk (kX5_readOne X)) 64 ([some (.ref 37), some (.int (v1))], [], (hp M J R 43 38 nL xs D)) =
    cond (decide (v1 < 5))
    (px_run (px_mk (kX5_readOne X)) 71 ([some (.ref 37), some (.int (v1))], [], (hp M J R 43 38 nL xs D)))
    (px_run (px_mk (kX5_readOne X)) 69 ([some (.ref 37), some (.int (v1))], [], (hp M J R 43 38 nL xs D))) := (px_run_eq _ _ _).trans rfl
set_option maxRecDepth 40000 in
theorem eX5_readOne_43_69 (X : px_X) (M : Nat → Nat → Int32) (J : Nat → Nat → Int64) (R : Nat → Nat → Option Nat) (nL : Nat) (xs : Nat → Int32) (D : px_H) (o0 : Option Value) (o1 : Option Value) : px_run (px_mk (kX5_readOne X)) 69 ([o0, o1], [], (hp M J R 43 38 nL xs D)) =
    some (some (.int (0)), (hp M J R 43 38 nL xs D)) := (px_run_eq _ _ _).trans rfl
set_option maxRecDepth 40000 in
theorem eX5_readOne_43_33_3 (X : px_X) (M : Nat → Nat → Int32) (J : Nat → Nat → Int64) (R : Nat → Nat → Option Nat) (nL : Nat) (xs : Nat → Int32) (D : px_H)  : px_p (kX5_readOne X) 33 3 ([some (.ref 37), none], [], (hp M J R 43 38 nL xs D)) =
    px_bd (X 61 [.ref 37] (hp M J R 43 38 nL xs D))
    (fun v G1 => px_p (kX5_readOne X) 33 5 ([some (.ref 37), none], px_psh v [], G1)) := rfl
set_option maxRecDepth 40000 in
theorem eX5_readOne_43_71 (X : px_X) (M : Nat → Nat → Int32) (J : Nat → Nat → Int64) (R : Nat → Nat → Option Nat) (nL : Nat) (xs : Nat → Int32) (D : px_H) (v1 : Int32) : px_run (px_mk (kX5_readOne X)) 71 ([some (.ref 37), some (.int (v1))], [], (hp M J R 43 38 nL xs D)) =
    cond (decide (¬ M 37 6 = 45))
    (px_run (px_mk (kX5_readOne X)) 90 ([some (.ref 37), some (.int (v1))], [], (hp M J R 43 38 nL xs D)))
    (px_bd (X 59 [.ref 37, .int ((v1 + 1))] (hp M J R 43 38 nL xs D))
    (fun v G1 => px_p (kX5_readOne X) 71 9 ([some (.ref 37), some (.int (v1))], px_psh v [], G1))) := (px_run_eq _ _ _).trans rfl
set_option maxRecDepth 40000 in
theorem eX5_readOne_43_33_5 (X : px_X) (M : Nat → Nat → Int32) (J : Nat → Nat → Int64) (R : Nat → Nat → Option Nat) (nL : Nat) (xs : Nat → Int32) (D : px_H)  : px_p (kX5_readOne X) 33 5 ([some (.ref 37), none], [], (hp M J R 43 38 nL xs D)) =
    some (some (.int (1)), (hp M J R 43 38 nL xs D)) := rfl
set_option maxRecDepth 40000 in
theorem eX5_readOne_43_90_5 (X : px_X) (st : px_S) : px_p (kX5_readOne X) 90 5 st = px_run (px_mk (kX5_readOne X)) 97 st := rfl
set_option maxRecDepth 40000 in
theorem eX5_readOne_43_90 (X : px_X) (M : Nat → Nat → Int32) (J : Nat → Nat → Int64) (R : Nat → Nat → Option Nat) (nL : Nat) (xs : Nat → Int32) (D : px_H) (v1 : Int32) : px_run (px_mk (kX5_readOne X)) 90 ([some (.ref 37), some (.int (v1))], [], (hp M J R 43 38 nL xs D)) =
    px_bd (X 60 [.ref 37, .int ((v1 + 1))] (hp M J R 43 38 nL xs D))
    (fun v G1 => px_p (kX5_readOne X) 90 5 ([some (.ref 37), some (.int (v1))], px_psh v [], G1)) := (px_run_eq _ _ _).trans rfl
set_option maxRecDepth 40000 in
theorem eX5_readOne_43_71_9 (X : px_X) (M : Nat → Nat → Int32) (J : Nat → Nat → Int64) (R : Nat → Nat → Option Nat) (nL : Nat) (xs : Nat → Int32) (D : px_H) (v1 : Int32) (w0 : Int32) : px_p (kX5_readOne X) 71 9 ([some (.ref 37), some (.int (v1))], [.int (w0)], (hp M J R 43 38 nL xs D)) =
    px_run (px_mk (kX5_readOne X)) 97 ([some (.ref 37), some (.int (v1))], [.int (w0)], (hp M J R 43 38 nL xs D)) := rfl
set_option maxRecDepth 40000 in
theorem eX5_readOne_43_97 (X : px_X) (M : Nat → Nat → Int32) (J : Nat → Nat → Int64) (R : Nat → Nat → Option Nat) (nL : Nat) (xs : Nat → Int32) (D : px_H) (o0 : Option Value) (o1 : Option Value) (w0 : Int32) : px_run (px_mk (kX5_readOne X)) 97 ([o0, o1], [.int (w0)], (hp M J R 43 38 nL xs D)) =
    cond (decide (w0 = 0) || decide (w0 = 1)) (some (some (.int (w0)), (hp M J R 43 38 nL xs D))) none := (px_run_eq _ _ _).trans rfl
set_option maxRecDepth 40000 in
theorem eX5_readNegated_38_0 (X : px_X) (M : Nat → Nat → Int32) (J : Nat → Nat → Int64) (R : Nat → Nat → Option Nat) (nL : Nat) (xs : Nat → Int32) (D : px_H) (v1 : Int32) : px_run (px_mk (kX5_readNegated X)) 0 ([some (.ref 37), some (.int (v1)), none], [], (hp M J R 38 43 nL xs D)) =
    px_bd (X 61 [.ref 37] (hp M J R 38 43 nL xs D))
    (fun v G1 => px_p (kX5_readNegated X) 0 2 ([some (.ref 37), some (.int (v1)), none], px_psh v [], G1)) := (px_run_eq _ _ _).trans rfl
set_option maxRecDepth 40000 in
theorem eX5_readNegated_38_0_2 (X : px_X) (M : Nat → Nat → Int32) (J : Nat → Nat → Int64) (R : Nat → Nat → Option Nat) (nL : Nat) (xs : Nat → Int32) (D : px_H) (v1 : Int32) : px_p (kX5_readNegated X) 0 2 ([some (.ref 37), some (.int (v1)), none], [], (hp M J R 38 43 nL xs D)) =
    px_bd (X 58 [.ref 37, .int (v1)] (hp M J R 38 43 nL xs D))
    (fun v G1 => px_p (kX5_readNegated X) 0 5 ([some (.ref 37), some (.int (v1)), none], px_psh v [], G1)) := rfl
set_option maxRecDepth 40000 in
theorem eX5_readNegated_38_0_5 (X : px_X) (M : Nat → Nat → Int32) (J : Nat → Nat → Int64) (R : Nat → Nat → Option Nat) (nL : Nat) (xs : Nat → Int32) (D : px_H) (v1 : Int32) (w0 : Int32) : px_p (kX5_readNegated X) 0 5 ([some (.ref 37), some (.int (v1)), none], [.int (w0)], (hp M J R 38 43 nL xs D)) =
    px_bd (X 40 [.ref 43, .int (2), .int (0)] (hp M J R 38 43 nL xs D))
    (fun v G1 => px_p (kX5_readNegated X) 0 11 ([some (.ref 37), some (.int (v1)), some (.int (w0))], px_psh v [], G1)) := rfl
set_option maxRecDepth 40000 in
theorem eX5_readNegated_38_0_11 (X : px_X) (M : Nat → Nat → Int32) (J : Nat → Nat → Int64) (R : Nat → Nat → Option Nat) (nL : Nat) (xs : Nat → Int32) (D : px_H) (v1 : Int32) (v2 : Int32) : px_p (kX5_readNegated X) 0 11 ([some (.ref 37), some (.int (v1)), some (.int (v2))], [], (hp M J R 38 43 nL xs D)) =
    cond (decide (v2 = 0) || decide (v2 = 1)) (some (some (.int (v2)), (hp M J R 38 43 nL xs D))) none := rfl
set_option maxRecDepth 40000 in
theorem eX5_readNegated_43_0 (X : px_X) (M : Nat → Nat → Int32) (J : Nat → Nat → Int64) (R : Nat → Nat → Option Nat) (nL : Nat) (xs : Nat → Int32) (D : px_H) (v1 : Int32) : px_run (px_mk (kX5_readNegated X)) 0 ([some (.ref 37), some (.int (v1)), none], [], (hp M J R 43 38 nL xs D)) =
    px_bd (X 61 [.ref 37] (hp M J R 43 38 nL xs D))
    (fun v G1 => px_p (kX5_readNegated X) 0 2 ([some (.ref 37), some (.int (v1)), none], px_psh v [], G1)) := (px_run_eq _ _ _).trans rfl
set_option maxRecDepth 40000 in
theorem eX5_readNegated_43_0_2 (X : px_X) (M : Nat → Nat → Int32) (J : Nat → Nat → Int64) (R : Nat → Nat → Option Nat) (nL : Nat) (xs : Nat → Int32) (D : px_H) (v1 : Int32) : px_p (kX5_readNegated X) 0 2 ([some (.ref 37), some (.int (v1)), none], [], (hp M J R 43 38 nL xs D)) =
    px_bd (X 58 [.ref 37, .int (v1)] (hp M J R 43 38 nL xs D))
    (fun v G1 => px_p (kX5_readNegated X) 0 5 ([some (.ref 37), some (.int (v1)), none], px_psh v [], G1)) := rfl
set_option maxRecDepth 40000 in
theorem eX5_readNegated_43_0_5 (X : px_X) (M : Nat → Nat → Int32) (J : Nat → Nat → Int64) (R : Nat → Nat → Option Nat) (nL : Nat) (xs : Nat → Int32) (D : px_H) (v1 : Int32) (w0 : Int32) : px_p (kX5_readNegated X) 0 5 ([some (.ref 37), some (.int (v1)), none], [.int (w0)], (hp M J R 43 38 nL xs D)) =
    px_bd (X 40 [.ref 38, .int (2), .int (0)] (hp M J R 43 38 nL xs D))
    (fun v G1 => px_p (kX5_readNegated X) 0 11 ([some (.ref 37), some (.int (v1)), some (.int (w0))], px_psh v [], G1)) := rfl
set_option maxRecDepth 40000 in
theorem eX5_readNegated_43_0_11 (X : px_X) (M : Nat → Nat → Int32) (J : Nat → Nat → Int64) (R : Nat → Nat → Option Nat) (nL : Nat) (xs : Nat → Int32) (D : px_H) (v1 : Int32) (v2 : Int32) : px_p (kX5_readNegated X) 0 11 ([some (.ref 37), some (.int (v1)), some (.int (v2))], [], (hp M J R 43 38 nL xs D)) =
    cond (decide (v2 = 0) || decide (v2 = 1)) (some (some (.int (v2)), (hp M J R 43 38 nL xs D))) none := rfl
