/-! block equations over the fixed layout (written by wip/whole/seg.py) -/
set_option maxRecDepth 40000 in
theorem eX4_clear_38_0 (X : px_X) (M : Nat → Nat → Int32) (J : Nat → Nat → Int64) (R : Nat → Nat → Option Nat) (c e : Nat) (nL : Nat) (xs : Nat → Int32) (D : px_H)  : px_run (px_mk (kX4_clear X)) 0 ([some (.ref 38)], [], (hp M J R c e nL xs D)) =
    some (none, (hp (px_uR M 38 (upd (upd (M 38) 0 (0)) 1 (0))) J R c e nL xs D)) := (px_run_eq _ _ _).trans rfl
set_option maxRecDepth 40000 in
theorem eX4_clear_43_0 (X : px_X) (M : Nat → Nat → Int32) (J : Nat → Nat → Int64) (R : Nat → Nat → Option Nat) (c e : Nat) (nL : Nat) (xs : Nat → Int32) (D : px_H)  : px_run (px_mk (kX4_clear X)) 0 ([some (.ref 43)], [], (hp M J R c e nL xs D)) =
    some (none, (hp (px_uR M 43 (upd (upd (M 43) 0 (0)) 1 (0))) J R c e nL xs D)) := (px_run_eq _ _ _).trans rfl
set_option maxRecDepth 40000 in
theorem eX4_add_38_0 (X : px_X) (M : Nat → Nat → Int32) (J : Nat → Nat → Int64) (R : Nat → Nat → Option Nat) (c e : Nat) (nL : Nat) (xs : Nat → Int32) (D : px_H) (v1 : Int32) (v2 : Int32) : px_run (px_mk (kX4_add X)) 0 ([some (.ref 38), some (.int (v1)), some (.int (v2))], [], (hp M J R c e nL xs D)) =
    cond (decide (160 ≤ M 38 1))
    (px_run (px_mk (kX4_add X)) 40 ([some (.ref 38), some (.int (v1)), some (.int (v2))], [], (hp M J R c e nL xs D)))
    (cond (px_inb (M 38 1) 160)
    (cond (px_inb (M 38 1) 160)
    (px_run (px_mk (kX4_add X)) 40 ([some (.ref 38), some (.int (v1)), some (.int (v2))], [], (hp (px_uR (px_uR (px_uR M 40 (upd (M 40) (Int32.toNatClampNeg (M 38 1)) (v1))) 41 (upd (M 41) (Int32.toNatClampNeg (M 38 1)) (v2))) 38 (upd (M 38) 1 ((M 38 1 + 1)))) J R c e nL xs D))) none) none) := (px_run_eq _ _ _).trans rfl
set_option maxRecDepth 40000 in
theorem eX4_add_38_40 (X : px_X) (M : Nat → Nat → Int32) (J : Nat → Nat → Int64) (R : Nat → Nat → Option Nat) (c e : Nat) (nL : Nat) (xs : Nat → Int32) (D : px_H) (o0 : Option Value) (o1 : Option Value) (o2 : Option Value) : px_run (px_mk (kX4_add X)) 40 ([o0, o1, o2], [], (hp M J R c e nL xs D)) =
    some (none, (hp M J R c e nL xs D)) := (px_run_eq _ _ _).trans rfl
set_option maxRecDepth 40000 in
theorem eX4_add_43_0 (X : px_X) (M : Nat → Nat → Int32) (J : Nat → Nat → Int64) (R : Nat → Nat → Option Nat) (c e : Nat) (nL : Nat) (xs : Nat → Int32) (D : px_H) (v1 : Int32) (v2 : Int32) : px_run (px_mk (kX4_add X)) 0 ([some (.ref 43), some (.int (v1)), some (.int (v2))], [], (hp M J R c e nL xs D)) =
    cond (decide (160 ≤ M 43 1))
    (px_run (px_mk (kX4_add X)) 40 ([some (.ref 43), some (.int (v1)), some (.int (v2))], [], (hp M J R c e nL xs D)))
    (cond (px_inb (M 43 1) 160)
    (cond (px_inb (M 43 1) 160)
    (px_run (px_mk (kX4_add X)) 40 ([some (.ref 43), some (.int (v1)), some (.int (v2))], [], (hp (px_uR (px_uR (px_uR M 45 (upd (M 45) (Int32.toNatClampNeg (M 43 1)) (v1))) 46 (upd (M 46) (Int32.toNatClampNeg (M 43 1)) (v2))) 43 (upd (M 43) 1 ((M 43 1 + 1)))) J R c e nL xs D))) none) none) := (px_run_eq _ _ _).trans rfl
set_option maxRecDepth 40000 in
theorem eX4_add_43_40 (X : px_X) (M : Nat → Nat → Int32) (J : Nat → Nat → Int64) (R : Nat → Nat → Option Nat) (c e : Nat) (nL : Nat) (xs : Nat → Int32) (D : px_H) (o0 : Option Value) (o1 : Option Value) (o2 : Option Value) : px_run (px_mk (kX4_add X)) 40 ([o0, o1, o2], [], (hp M J R c e nL xs D)) =
    some (none, (hp M J R c e nL xs D)) := (px_run_eq _ _ _).trans rfl
set_option maxRecDepth 40000 in
theorem eX4_endBar_38_0 (X : px_X) (M : Nat → Nat → Int32) (J : Nat → Nat → Int64) (R : Nat → Nat → Option Nat) (c e : Nat) (nL : Nat) (xs : Nat → Int32) (D : px_H)  : px_run (px_mk (kX4_endBar X)) 0 ([some (.ref 38)], [], (hp M J R c e nL xs D)) =
    cond (decide (6 ≤ M 38 0))
    (px_run (px_mk (kX4_endBar X)) 32 ([some (.ref 38)], [], (hp M J R c e nL xs D)))
    (cond (px_inb (M 38 0) 6)
    (px_run (px_mk (kX4_endBar X)) 32 ([some (.ref 38)], [], (hp (px_uR (px_uR M 39 (upd (M 39) (Int32.toNatClampNeg (M 38 0)) (M 38 1))) 38 (upd (M 38) 0 ((M 38 0 + 1)))) J R c e nL xs D))) none) := (px_run_eq _ _ _).trans rfl
set_option maxRecDepth 40000 in
theorem eX4_endBar_38_32 (X : px_X) (M : Nat → Nat → Int32) (J : Nat → Nat → Int64) (R : Nat → Nat → Option Nat) (c e : Nat) (nL : Nat) (xs : Nat → Int32) (D : px_H) (o0 : Option Value) : px_run (px_mk (kX4_endBar X)) 32 ([o0], [], (hp M J R c e nL xs D)) =
    some (none, (hp M J R c e nL xs D)) := (px_run_eq _ _ _).trans rfl
set_option maxRecDepth 40000 in
theorem eX4_endBar_43_0 (X : px_X) (M : Nat → Nat → Int32) (J : Nat → Nat → Int64) (R : Nat → Nat → Option Nat) (c e : Nat) (nL : Nat) (xs : Nat → Int32) (D : px_H)  : px_run (px_mk (kX4_endBar X)) 0 ([some (.ref 43)], [], (hp M J R c e nL xs D)) =
    cond (decide (6 ≤ M 43 0))
    (px_run (px_mk (kX4_endBar X)) 32 ([some (.ref 43)], [], (hp M J R c e nL xs D)))
    (cond (px_inb (M 43 0) 6)
    (px_run (px_mk (kX4_endBar X)) 32 ([some (.ref 43)], [], (hp (px_uR (px_uR M 44 (upd (M 44) (Int32.toNatClampNeg (M 43 0)) (M 43 1))) 43 (upd (M 43) 0 ((M 43 0 + 1)))) J R c e nL xs D))) none) := (px_run_eq _ _ _).trans rfl
set_option maxRecDepth 40000 in
theorem eX4_endBar_43_32 (X : px_X) (M : Nat → Nat → Int32) (J : Nat → Nat → Int64) (R : Nat → Nat → Option Nat) (c e : Nat) (nL : Nat) (xs : Nat → Int32) (D : px_H) (o0 : Option Value) : px_run (px_mk (kX4_endBar X)) 32 ([o0], [], (hp M J R c e nL xs D)) =
    some (none, (hp M J R c e nL xs D)) := (px_run_eq _ _ _).trans rfl
set_option maxRecDepth 40000 in
theorem eX4_firstHolding_38_0 (X : px_X) (M : Nat → Nat → Int32) (J : Nat → Nat → Int64) (R : Nat → Nat → Option Nat) (c e : Nat) (nL : Nat) (xs : Nat → Int32) (D : px_H) (f1 : Nat) (v2 : Int32) : px_run (px_mk (kX4_firstHolding X)) 0 ([some (.ref 38), some (.ref (f1)), some (.int (v2)), none], [], (hp M J R c e nL xs D)) =
    px_run (px_mk (kX4_firstHolding X)) 2 ([some (.ref 38), some (.ref (f1)), some (.int (v2)), some (.int (0))], [], (hp M J R c e nL xs D)) := (px_run_eq _ _ _).trans rfl
set_option maxRecDepth 40000 in
theorem eX4_firstHolding_38_2 (X : px_X) (M : Nat → Nat → Int32) (J : Nat → Nat → Int64) (R : Nat → Nat → Option Nat) (c e : Nat) (nL : Nat) (xs : Nat → Int32) (D : px_H) (f1 : Nat) (v2 : Int32) (v3 : Int32) : px_run (px_mk (kX4_firstHolding X)) 2 ([some (.ref 38), some (.ref (f1)), some (.int (v2)), some (.int (v3))], [], (hp M J R c e nL xs D)) =
    cond (decide (M 38 0 ≤ v3))
    (px_run (px_mk (kX4_firstHolding X)) 28 ([some (.ref 38), some (.ref (f1)), some (.int (v2)), some (.int (v3))], [], (hp M J R c e nL xs D)))
    (px_bd (X 43 [.ref 38, .int (v3), .ref (f1), .int (v2)] (hp M J R c e nL xs D))
    (fun v G1 => px_p (kX4_firstHolding X) 2 9 ([some (.ref 38), some (.ref (f1)), some (.int (v2)), some (.int (v3))], px_psh v [], G1))) := (px_run_eq _ _ _).trans rfl
set_option maxRecDepth 40000 in
theorem eX4_firstHolding_38_28 (X : px_X) (M : Nat → Nat → Int32) (J : Nat → Nat → Int64) (R : Nat → Nat → Option Nat) (c e : Nat) (nL : Nat) (xs : Nat → Int32) (D : px_H) (o0 : Option Value) (o1 : Option Value) (o2 : Option Value) (o3 : Option Value) : px_run (px_mk (kX4_firstHolding X)) 28 ([o0, o1, o2, o3], [], (hp M J R c e nL xs D)) =
    some (some (.int ((-1))), (hp M J R c e nL xs D)) := (px_run_eq _ _ _).trans rfl
set_option maxRecDepth 40000 in
theorem eX4_firstHolding_38_2_9 (X : px_X) (M : Nat → Nat → Int32) (J : Nat → Nat → Int64) (R : Nat → Nat → Option Nat) (c e : Nat) (nL : Nat) (xs : Nat → Int32) (D : px_H) (f1 : Nat) (v2 : Int32) (v3 : Int32) (w0 : Int32) : px_p (kX4_firstHolding X) 2 9 ([some (.ref 38), some (.ref (f1)), some (.int (v2)), some (.int (v3))], [.int (w0)], (hp M J R c e nL xs D)) =
    cond (decide (w0 = 0))
    (px_run (px_mk (kX4_firstHolding X)) 22 ([some (.ref 38), some (.ref (f1)), some (.int (v2)), some (.int (v3))], [], (hp M J R c e nL xs D)))
    (some (some (.int (v3)), (hp M J R c e nL xs D))) := rfl
set_option maxRecDepth 40000 in
theorem eX4_firstHolding_38_22 (X : px_X) (M : Nat → Nat → Int32) (J : Nat → Nat → Int64) (R : Nat → Nat → Option Nat) (c e : Nat) (nL : Nat) (xs : Nat → Int32) (D : px_H) (f1 : Nat) (v2 : Int32) (v3 : Int32) : px_run (px_mk (kX4_firstHolding X)) 22 ([some (.ref 38), some (.ref (f1)), some (.int (v2)), some (.int (v3))], [], (hp M J R c e nL xs D)) =
    px_run (px_mk (kX4_firstHolding X)) 2 ([some (.ref 38), some (.ref (f1)), some (.int (v2)), some (.int ((v3 + 1)))], [], (hp M J R c e nL xs D)) := (px_run_eq _ _ _).trans rfl
set_option maxRecDepth 40000 in
theorem eX4_firstHolding_43_0 (X : px_X) (M : Nat → Nat → Int32) (J : Nat → Nat → Int64) (R : Nat → Nat → Option Nat) (c e : Nat) (nL : Nat) (xs : Nat → Int32) (D : px_H) (f1 : Nat) (v2 : Int32) : px_run (px_mk (kX4_firstHolding X)) 0 ([some (.ref 43), some (.ref (f1)), some (.int (v2)), none], [], (hp M J R c e nL xs D)) =
    px_run (px_mk (kX4_firstHolding X)) 2 ([some (.ref 43), some (.ref (f1)), some (.int (v2)), some (.int (0))], [], (hp M J R c e nL xs D)) := (px_run_eq _ _ _).trans rfl
set_option maxRecDepth 40000 in
theorem eX4_firstHolding_43_2 (X : px_X) (M : Nat → Nat → Int32) (J : Nat → Nat → Int64) (R : Nat → Nat → Option Nat) (c e : Nat) (nL : Nat) (xs : Nat → Int32) (D : px_H) (f1 : Nat) (v2 : Int32) (v3 : Int32) : px_run (px_mk (kX4_firstHolding X)) 2 ([some (.ref 43), some (.ref (f1)), some (.int (v2)), some (.int (v3))], [], (hp M J R c e nL xs D)) =
    cond (decide (M 43 0 ≤ v3))
    (px_run (px_mk (kX4_firstHolding X)) 28 ([some (.ref 43), some (.ref (f1)), some (.int (v2)), some (.int (v3))], [], (hp M J R c e nL xs D)))
    (px_bd (X 43 [.ref 43, .int (v3), .ref (f1), .int (v2)] (hp M J R c e nL xs D))
    (fun v G1 => px_p (kX4_firstHolding X) 2 9 ([some (.ref 43), some (.ref (f1)), some (.int (v2)), some (.int (v3))], px_psh v [], G1))) := (px_run_eq _ _ _).trans rfl
set_option maxRecDepth 40000 in
theorem eX4_firstHolding_43_28 (X : px_X) (M : Nat → Nat → Int32) (J : Nat → Nat → Int64) (R : Nat → Nat → Option Nat) (c e : Nat) (nL : Nat) (xs : Nat → Int32) (D : px_H) (o0 : Option Value) (o1 : Option Value) (o2 : Option Value) (o3 : Option Value) : px_run (px_mk (kX4_firstHolding X)) 28 ([o0, o1, o2, o3], [], (hp M J R c e nL xs D)) =
    some (some (.int ((-1))), (hp M J R c e nL xs D)) := (px_run_eq _ _ _).trans rfl
set_option maxRecDepth 40000 in
theorem eX4_firstHolding_43_2_9 (X : px_X) (M : Nat → Nat → Int32) (J : Nat → Nat → Int64) (R : Nat → Nat → Option Nat) (c e : Nat) (nL : Nat) (xs : Nat → Int32) (D : px_H) (f1 : Nat) (v2 : Int32) (v3 : Int32) (w0 : Int32) : px_p (kX4_firstHolding X) 2 9 ([some (.ref 43), some (.ref (f1)), some (.int (v2)), some (.int (v3))], [.int (w0)], (hp M J R c e nL xs D)) =
    cond (decide (w0 = 0))
    (px_run (px_mk (kX4_firstHolding X)) 22 ([some (.ref 43), some (.ref (f1)), some (.int (v2)), some (.int (v3))], [], (hp M J R c e nL xs D)))
    (some (some (.int (v3)), (hp M J R c e nL xs D))) := rfl
set_option maxRecDepth 40000 in
theorem eX4_firstHolding_43_22 (X : px_X) (M : Nat → Nat → Int32) (J : Nat → Nat → Int64) (R : Nat → Nat → Option Nat) (c e : Nat) (nL : Nat) (xs : Nat → Int32) (D : px_H) (f1 : Nat) (v2 : Int32) (v3 : Int32) : px_run (px_mk (kX4_firstHolding X)) 22 ([some (.ref 43), some (.ref (f1)), some (.int (v2)), some (.int (v3))], [], (hp M J R c e nL xs D)) =
    px_run (px_mk (kX4_firstHolding X)) 2 ([some (.ref 43), some (.ref (f1)), some (.int (v2)), some (.int ((v3 + 1)))], [], (hp M J R c e nL xs D)) := (px_run_eq _ _ _).trans rfl
set_option maxRecDepth 40000 in
theorem eX4_valueOf_38_0 (X : px_X) (M : Nat → Nat → Int32) (J : Nat → Nat → Int64) (R : Nat → Nat → Option Nat) (c e : Nat) (nL : Nat) (xs : Nat → Int32) (D : px_H) (v1 : Int32) (f2 : Nat) (v3 : Int32) : px_run (px_mk (kX4_valueOf X)) 0 ([some (.ref 38), some (.int (v1)), some (.ref (f2)), some (.int (v3)), none, none, none], [], (hp M J R c e nL xs D)) =
    cond (decide (v1 ≤ 0))
    (px_run (px_mk (kX4_valueOf X)) 18 ([some (.ref 38), some (.int (v1)), some (.ref (f2)), some (.int (v3)), some (.int (0)), none, none], [], (hp M J R c e nL xs D)))
    (cond (px_inb ((v1 - 1)) 6)
    (px_run (px_mk (kX4_valueOf X)) 19 ([some (.ref 38), some (.int (v1)), some (.ref (f2)), some (.int (v3)), some (.int (0)), none, none], [.int (((M 39) (Int32.toNatClampNeg ((v1 - 1)))))], (hp M J R c e nL xs D))) none) := (px_run_eq _ _ _).trans rfl
set_option maxRecDepth 40000 in
theorem eX4_valueOf_38_18 (X : px_X) (M : Nat → Nat → Int32) (J : Nat → Nat → Int64) (R : Nat → Nat → Option Nat) (c e : Nat) (nL : Nat) (xs : Nat → Int32) (D : px_H) (v1 : Int32) (f2 : Nat) (v3 : Int32) (v4 : Int32) (o5 : Option Value) (o6 : Option Value) : px_run (px_mk (kX4_valueOf X)) 18 ([some (.ref 38), some (.int (v1)), some (.ref (f2)), some (.int (v3)), some (.int (v4)), o5, o6], [], (hp M J R c e nL xs D)) =
    px_run (px_mk (kX4_valueOf X)) 19 ([some (.ref 38), some (.int (v1)), some (.ref (f2)), some (.int (v3)), some (.int (v4)), none, none], [.int (0)], (hp M J R c e nL xs D)) := (px_run_eq _ _ _).trans rfl
set_option maxRecDepth 40000 in
theorem eX4_valueOf_38_19 (X : px_X) (M : Nat → Nat → Int32) (J : Nat → Nat → Int64) (R : Nat → Nat → Option Nat) (c e : Nat) (nL : Nat) (xs : Nat → Int32) (D : px_H) (v1 : Int32) (f2 : Nat) (v3 : Int32) (v4 : Int32) (o5 : Option Value) (o6 : Option Value) (w0 : Int32) : px_run (px_mk (kX4_valueOf X)) 19 ([some (.ref 38), some (.int (v1)), some (.ref (f2)), some (.int (v3)), some (.int (v4)), o5, o6], [.int (w0)], (hp M J R c e nL xs D)) =
    px_run (px_mk (kX4_valueOf X)) 25 ([some (.ref 38), some (.int (v1)), some (.ref (f2)), some (.int (v3)), some (.int (v4)), some (.int (w0)), some (.int (w0))], [], (hp M J R c e nL xs D)) := (px_run_eq _ _ _).trans rfl
set_option maxRecDepth 40000 in
theorem eX4_valueOf_38_25 (X : px_X) (M : Nat → Nat → Int32) (J : Nat → Nat → Int64) (R : Nat → Nat → Option Nat) (c e : Nat) (nL : Nat) (xs : Nat → Int32) (D : px_H) (v1 : Int32) (f2 : Nat) (v3 : Int32) (v4 : Int32) (o5 : Option Value) (v6 : Int32) : px_run (px_mk (kX4_valueOf X)) 25 ([some (.ref 38), some (.int (v1)), some (.ref (f2)), some (.int (v3)), some (.int (v4)), o5, some (.int (v6))], [], (hp M J R c e nL xs D)) =
    cond (px_inb (v1) 6)
    (cond (decide (((M 39) (Int32.toNatClampNeg (v1))) ≤ v6))
    (px_run (px_mk (kX4_valueOf X)) 218 ([some (.ref 38), some (.int (v1)), some (.ref (f2)), some (.int (v3)), some (.int (v4)), none, some (.int (v6))], [], (hp M J R c e nL xs D)))
    (cond (px_inb (v6) 160)
    (cond (decide (¬ ((M 40) (Int32.toNatClampNeg (v6))) = 0))
    (px_run (px_mk (kX4_valueOf X)) 74 ([some (.ref 38), some (.int (v1)), some (.ref (f2)), some (.int (v3)), some (.int (v4)), none, some (.int (v6))], [], (hp M J R c e nL xs D)))
    (cond (decide (160 ≤ v4))
    (px_run (px_mk (kX4_valueOf X)) 74 ([some (.ref 38), some (.int (v1)), some (.ref (f2)), some (.int (v3)), some (.int (v4)), none, some (.int (v6))], [], (hp M J R c e nL xs D)))
    (cond (px_inb (v6) 160)
    (cond (px_inb (v4) 160)
    (px_run (px_mk (kX4_valueOf X)) 212 ([some (.ref 38), some (.int (v1)), some (.ref (f2)), some (.int (v3)), some (.int ((v4 + 1))), none, some (.int (v6))], [], (hp (px_uR M 42 (upd (M 42) (Int32.toNatClampNeg (v4)) (((M 41) (Int32.toNatClampNeg (v6)))))) J R c e nL xs D))) none) none))) none)) none := (px_run_eq _ _ _).trans rfl
set_option maxRecDepth 40000 in
theorem eX4_valueOf_38_218 (X : px_X) (M : Nat → Nat → Int32) (J : Nat → Nat → Int64) (R : Nat → Nat → Option Nat) (c e : Nat) (nL : Nat) (xs : Nat → Int32) (D : px_H) (o1 : Option Value) (o2 : Option Value) (o3 : Option Value) (o4 : Option Value) (o5 : Option Value) (o6 : Option Value) : px_run (px_mk (kX4_valueOf X)) 218 ([some (.ref 38), o1, o2, o3, o4, o5, o6], [], (hp M J R c e nL xs D)) =
    cond (px_inb (0) 160)
    (some (some (.int (((M 42) (Int32.toNatClampNeg (0))))), (hp M J R c e nL xs D))) none := (px_run_eq _ _ _).trans rfl
set_option maxRecDepth 40000 in
theorem eX4_valueOf_38_74 (X : px_X) (M : Nat → Nat → Int32) (J : Nat → Nat → Int64) (R : Nat → Nat → Option Nat) (c e : Nat) (nL : Nat) (xs : Nat → Int32) (D : px_H) (v1 : Int32) (f2 : Nat) (v3 : Int32) (v4 : Int32) (o5 : Option Value) (v6 : Int32) : px_run (px_mk (kX4_valueOf X)) 74 ([some (.ref 38), some (.int (v1)), some (.ref (f2)), some (.int (v3)), some (.int (v4)), o5, some (.int (v6))], [], (hp M J R c e nL xs D)) =
    cond (px_inb (v6) 160)
    (cond (decide (¬ ((M 40) (Int32.toNatClampNeg (v6))) = 1))
    (px_run (px_mk (kX4_valueOf X)) 118 ([some (.ref 38), some (.int (v1)), some (.ref (f2)), some (.int (v3)), some (.int (v4)), none, some (.int (v6))], [], (hp M J R c e nL xs D)))
    (cond (decide (160 ≤ v4))
    (px_run (px_mk (kX4_valueOf X)) 118 ([some (.ref 38), some (.int (v1)), some (.ref (f2)), some (.int (v3)), some (.int (v4)), none, some (.int (v6))], [], (hp M J R c e nL xs D)))
    (cond (px_inb (v6) 160)
    (px_bd (X 44 [.int (((M 41) (Int32.toNatClampNeg (v6)))), .ref (f2), .int (v3)] (hp M J R c e nL xs D))
    (fun v G1 => px_p (kX4_valueOf X) 74 19 ([some (.ref 38), some (.int (v1)), some (.ref (f2)), some (.int (v3)), some (.int (v4)), none, some (.int (v6))], px_psh v [.int (v4), .ref 42], G1))) none))) none := (px_run_eq _ _ _).trans rfl
set_option maxRecDepth 40000 in
theorem eX4_valueOf_38_212 (X : px_X) (M : Nat → Nat → Int32) (J : Nat → Nat → Int64) (R : Nat → Nat → Option Nat) (c e : Nat) (nL : Nat) (xs : Nat → Int32) (D : px_H) (v1 : Int32) (f2 : Nat) (v3 : Int32) (v4 : Int32) (o5 : Option Value) (v6 : Int32) : px_run (px_mk (kX4_valueOf X)) 212 ([some (.ref 38), some (.int (v1)), some (.ref (f2)), some (.int (v3)), some (.int (v4)), o5, some (.int (v6))], [], (hp M J R c e nL xs D)) =
    px_run (px_mk (kX4_valueOf X)) 25 ([some (.ref 38), some (.int (v1)), some (.ref (f2)), some (.int (v3)), some (.int (v4)), none, some (.int ((v6 + 1)))], [], (hp M J R c e nL xs D)) := (px_run_eq _ _ _).trans rfl
set_option maxRecDepth 40000 in
theorem eX4_valueOf_38_118 (X : px_X) (M : Nat → Nat → Int32) (J : Nat → Nat → Int64) (R : Nat → Nat → Option Nat) (c e : Nat) (nL : Nat) (xs : Nat → Int32) (D : px_H) (v1 : Int32) (f2 : Nat) (v3 : Int32) (v4 : Int32) (o5 : Option Value) (v6 : Int32) : px_run (px_mk (kX4_valueOf X)) 118 ([some (.ref 38), some (.int (v1)), some (.ref (f2)), some (.int (v3)), some (.int (v4)), o5, some (.int (v6))], [], (hp M J R c e nL xs D)) =
    cond (px_inb (v6) 160)
    (cond (decide (3 < ((M 40) (Int32.toNatClampNeg (v6)))))
    (px_run (px_mk (kX4_valueOf X)) 166 ([some (.ref 38), some (.int (v1)), some (.ref (f2)), some (.int (v3)), some (.int (v4)), none, some (.int (v6))], [], (hp M J R c e nL xs D)))
    (cond (decide (v4 < 1))
    (px_run (px_mk (kX4_valueOf X)) 166 ([some (.ref 38), some (.int (v1)), some (.ref (f2)), some (.int (v3)), some (.int (v4)), none, some (.int (v6))], [], (hp M J R c e nL xs D)))
    (cond (px_inb (v6) 160)
    (cond (px_inb ((v4 - 1)) 160)
    (px_bd (X 45 [.int (((M 40) (Int32.toNatClampNeg (v6)))), .int (((M 42) (Int32.toNatClampNeg ((v4 - 1)))))] (hp M J R c e nL xs D))
    (fun v G1 => px_p (kX4_valueOf X) 118 25 ([some (.ref 38), some (.int (v1)), some (.ref (f2)), some (.int (v3)), some (.int (v4)), none, some (.int (v6))], px_psh v [.int ((v4 - 1)), .ref 42], G1))) none) none))) none := (px_run_eq _ _ _).trans rfl
set_option maxRecDepth 40000 in
theorem eX4_valueOf_38_74_19 (X : px_X) (M : Nat → Nat → Int32) (J : Nat → Nat → Int64) (R : Nat → Nat → Option Nat) (c e : Nat) (nL : Nat) (xs : Nat → Int32) (D : px_H) (v1 : Int32) (f2 : Nat) (v3 : Int32) (v4 : Int32) (v6 : Int32) (w1 : Int32) (w2 : Int32) : px_p (kX4_valueOf X) 74 19 ([some (.ref 38), some (.int (v1)), some (.ref (f2)), some (.int (v3)), some (.int (v4)), none, some (.int (v6))], [.int (w2), .int (w1), .ref 42], (hp M J R c e nL xs D)) =
    cond (px_inb (w1) 160)
    (px_run (px_mk (kX4_valueOf X)) 212 ([some (.ref 38), some (.int (v1)), some (.ref (f2)), some (.int (v3)), some (.int ((v4 + 1))), none, some (.int (v6))], [], (hp (px_uR M 42 (upd (M 42) (Int32.toNatClampNeg (w1)) (w2))) J R c e nL xs D))) none := rfl
set_option maxRecDepth 40000 in
theorem eX4_valueOf_38_166 (X : px_X) (M : Nat → Nat → Int32) (J : Nat → Nat → Int64) (R : Nat → Nat → Option Nat) (c e : Nat) (nL : Nat) (xs : Nat → Int32) (D : px_H) (v1 : Int32) (f2 : Nat) (v3 : Int32) (v4 : Int32) (o5 : Option Value) (v6 : Int32) : px_run (px_mk (kX4_valueOf X)) 166 ([some (.ref 38), some (.int (v1)), some (.ref (f2)), some (.int (v3)), some (.int (v4)), o5, some (.int (v6))], [], (hp M J R c e nL xs D)) =
    cond (decide (v4 < 2))
    (px_run (px_mk (kX4_valueOf X)) 212 ([some (.ref 38), some (.int (v1)), some (.ref (f2)), some (.int (v3)), some (.int (v4)), none, some (.int (v6))], [], (hp M J R c e nL xs D)))
    (cond (px_inb (v6) 160)
    (cond (px_inb ((v4 - 2)) 160)
    (cond (px_inb ((v4 - 1)) 160)
    (px_bd (X 46 [.int (((M 40) (Int32.toNatClampNeg (v6)))), .int (((M 42) (Int32.toNatClampNeg ((v4 - 2))))), .int (((M 42) (Int32.toNatClampNeg ((v4 - 1)))))] (hp M J R c e nL xs D))
    (fun v G1 => px_p (kX4_valueOf X) 166 25 ([some (.ref 38), some (.int (v1)), some (.ref (f2)), some (.int (v3)), some (.int (v4)), none, some (.int (v6))], px_psh v [.int ((v4 - 2)), .ref 42], G1))) none) none) none) := (px_run_eq _ _ _).trans rfl
set_option maxRecDepth 40000 in
theorem eX4_valueOf_38_118_25 (X : px_X) (M : Nat → Nat → Int32) (J : Nat → Nat → Int64) (R : Nat → Nat → Option Nat) (c e : Nat) (nL : Nat) (xs : Nat → Int32) (D : px_H) (v1 : Int32) (f2 : Nat) (v3 : Int32) (v4 : Int32) (v6 : Int32) (w1 : Int32) (w2 : Int32) : px_p (kX4_valueOf X) 118 25 ([some (.ref 38), some (.int (v1)), some (.ref (f2)), some (.int (v3)), some (.int (v4)), none, some (.int (v6))], [.int (w2), .int (w1), .ref 42], (hp M J R c e nL xs D)) =
    cond (px_inb (w1) 160)
    (px_run (px_mk (kX4_valueOf X)) 212 ([some (.ref 38), some (.int (v1)), some (.ref (f2)), some (.int (v3)), some (.int (v4)), none, some (.int (v6))], [], (hp (px_uR M 42 (upd (M 42) (Int32.toNatClampNeg (w1)) (w2))) J R c e nL xs D))) none := rfl
set_option maxRecDepth 40000 in
theorem eX4_valueOf_38_166_25 (X : px_X) (M : Nat → Nat → Int32) (J : Nat → Nat → Int64) (R : Nat → Nat → Option Nat) (c e : Nat) (nL : Nat) (xs : Nat → Int32) (D : px_H) (v1 : Int32) (f2 : Nat) (v3 : Int32) (v4 : Int32) (v6 : Int32) (w1 : Int32) (w2 : Int32) : px_p (kX4_valueOf X) 166 25 ([some (.ref 38), some (.int (v1)), some (.ref (f2)), some (.int (v3)), some (.int (v4)), none, some (.int (v6))], [.int (w2), .int (w1), .ref 42], (hp M J R c e nL xs D)) =
    cond (px_inb (w1) 160)
    (px_run (px_mk (kX4_valueOf X)) 212 ([some (.ref 38), some (.int (v1)), some (.ref (f2)), some (.int (v3)), some (.int ((v4 + (-1)))), none, some (.int (v6))], [], (hp (px_uR M 42 (upd (M 42) (Int32.toNatClampNeg (w1)) (w2))) J R c e nL xs D))) none := rfl
set_option maxRecDepth 40000 in
theorem eX4_valueOf_43_0 (X : px_X) (M : Nat → Nat → Int32) (J : Nat → Nat → Int64) (R : Nat → Nat → Option Nat) (c e : Nat) (nL : Nat) (xs : Nat → Int32) (D : px_H) (v1 : Int32) (f2 : Nat) (v3 : Int32) : px_run (px_mk (kX4_valueOf X)) 0 ([some (.ref 43), some (.int (v1)), some (.ref (f2)), some (.int (v3)), none, none, none], [], (hp M J R c e nL xs D)) =
    cond (decide (v1 ≤ 0))
    (px_run (px_mk (kX4_valueOf X)) 18 ([some (.ref 43), some (.int (v1)), some (.ref (f2)), some (.int (v3)), some (.int (0)), none, none], [], (hp M J R c e nL xs D)))
    (cond (px_inb ((v1 - 1)) 6)
    (px_run (px_mk (kX4_valueOf X)) 19 ([some (.ref 43), some (.int (v1)), some (.ref (f2)), some (.int (v3)), some (.int (0)), none, none], [.int (((M 44) (Int32.toNatClampNeg ((v1 - 1)))))], (hp M J R c e nL xs D))) none) := (px_run_eq _ _ _).trans rfl
set_option maxRecDepth 40000 in
theorem eX4_valueOf_43_18 (X : px_X) (M : Nat → Nat → Int32) (J : Nat → Nat → Int64) (R : Nat → Nat → Option Nat) (c e : Nat) (nL : Nat) (xs : Nat → Int32) (D : px_H) (v1 : Int32) (f2 : Nat) (v3 : Int32) (v4 : Int32) (o5 : Option Value) (o6 : Option Value) : px_run (px_mk (kX4_valueOf X)) 18 ([some (.ref 43), some (.int (v1)), some (.ref (f2)), some (.int (v3)), some (.int (v4)), o5, o6], [], (hp M J R c e nL xs D)) =
    px_run (px_mk (kX4_valueOf X)) 19 ([some (.ref 43), some (.int (v1)), some (.ref (f2)), some (.int (v3)), some (.int (v4)), none, none], [.int (0)], (hp M J R c e nL xs D)) := (px_run_eq _ _ _).trans rfl
set_option maxRecDepth 40000 in
theorem eX4_valueOf_43_19 (X : px_X) (M : Nat → Nat → Int32) (J : Nat → Nat → Int64) (R : Nat → Nat → Option Nat) (c e : Nat) (nL : Nat) (xs : Nat → Int32) (D : px_H) (v1 : Int32) (f2 : Nat) (v3 : Int32) (v4 : Int32) (o5 : Option Value) (o6 : Option Value) (w0 : Int32) : px_run (px_mk (kX4_valueOf X)) 19 ([some (.ref 43), some (.int (v1)), some (.ref (f2)), some (.int (v3)), some (.int (v4)), o5, o6], [.int (w0)], (hp M J R c e nL xs D)) =
    px_run (px_mk (kX4_valueOf X)) 25 ([some (.ref 43), some (.int (v1)), some (.ref (f2)), some (.int (v3)), some (.int (v4)), some (.int (w0)), some (.int (w0))], [], (hp M J R c e nL xs D)) := (px_run_eq _ _ _).trans rfl
set_option maxRecDepth 40000 in
theorem eX4_valueOf_43_25 (X : px_X) (M : Nat → Nat → Int32) (J : Nat → Nat → Int64) (R : Nat → Nat → Option Nat) (c e : Nat) (nL : Nat) (xs : Nat → Int32) (D : px_H) (v1 : Int32) (f2 : Nat) (v3 : Int32) (v4 : Int32) (o5 : Option Value) (v6 : Int32) : px_run (px_mk (kX4_valueOf X)) 25 ([some (.ref 43), some (.int (v1)), some (.ref (f2)), some (.int (v3)), some (.int (v4)), o5, some (.int (v6))], [], (hp M J R c e nL xs D)) =
    cond (px_inb (v1) 6)
    (cond (decide (((M 44) (Int32.toNatClampNeg (v1))) ≤ v6))
    (px_run (px_mk (kX4_valueOf X)) 218 ([some (.ref 43), some (.int (v1)), some (.ref (f2)), some (.int (v3)), some (.int (v4)), none, some (.int (v6))], [], (hp M J R c e nL xs D)))
    (cond (px_inb (v6) 160)
    (cond (decide (¬ ((M 45) (Int32.toNatClampNeg (v6))) = 0))
    (px_run (px_mk (kX4_valueOf X)) 74 ([some (.ref 43), some (.int (v1)), some (.ref (f2)), some (.int (v3)), some (.int (v4)), none, some (.int (v6))], [], (hp M J R c e nL xs D)))
    (cond (decide (160 ≤ v4))
    (px_run (px_mk (kX4_valueOf X)) 74 ([some (.ref 43), some (.int (v1)), some (.ref (f2)), some (.int (v3)), some (.int (v4)), none, some (.int (v6))], [], (hp M J R c e nL xs D)))
    (cond (px_inb (v6) 160)
    (cond (px_inb (v4) 160)
    (px_run (px_mk (kX4_valueOf X)) 212 ([some (.ref 43), some (.int (v1)), some (.ref (f2)), some (.int (v3)), some (.int ((v4 + 1))), none, some (.int (v6))], [], (hp (px_uR M 47 (upd (M 47) (Int32.toNatClampNeg (v4)) (((M 46) (Int32.toNatClampNeg (v6)))))) J R c e nL xs D))) none) none))) none)) none := (px_run_eq _ _ _).trans rfl
set_option maxRecDepth 40000 in
theorem eX4_valueOf_43_218 (X : px_X) (M : Nat → Nat → Int32) (J : Nat → Nat → Int64) (R : Nat → Nat → Option Nat) (c e : Nat) (nL : Nat) (xs : Nat → Int32) (D : px_H) (o1 : Option Value) (o2 : Option Value) (o3 : Option Value) (o4 : Option Value) (o5 : Option Value) (o6 : Option Value) : px_run (px_mk (kX4_valueOf X)) 218 ([some (.ref 43), o1, o2, o3, o4, o5, o6], [], (hp M J R c e nL xs D)) =
    cond (px_inb (0) 160)
    (some (some (.int (((M 47) (Int32.toNatClampNeg (0))))), (hp M J R c e nL xs D))) none := (px_run_eq _ _ _).trans rfl
set_option maxRecDepth 40000 in
theorem eX4_valueOf_43_74 (X : px_X) (M : Nat → Nat → Int32) (J : Nat → Nat → Int64) (R : Nat → Nat → Option Nat) (c e : Nat) (nL : Nat) (xs : Nat → Int32) (D : px_H) (v1 : Int32) (f2 : Nat) (v3 : Int32) (v4 : Int32) (o5 : Option Value) (v6 : Int32) : px_run (px_mk (kX4_valueOf X)) 74 ([some (.ref 43), some (.int (v1)), some (.ref (f2)), some (.int (v3)), some (.int (v4)), o5, some (.int (v6))], [], (hp M J R c e nL xs D)) =
    cond (px_inb (v6) 160)
    (cond (decide (¬ ((M 45) (Int32.toNatClampNeg (v6))) = 1))
    (px_run (px_mk (kX4_valueOf X)) 118 ([some (.ref 43), some (.int (v1)), some (.ref (f2)), some (.int (v3)), some (.int (v4)), none, some (.int (v6))], [], (hp M J R c e nL xs D)))
    (cond (decide (160 ≤ v4))
    (px_run (px_mk (kX4_valueOf X)) 118 ([some (.ref 43), some (.int (v1)), some (.ref (f2)), some (.int (v3)), some (.int (v4)), none, some (.int (v6))], [], (hp M J R c e nL xs D)))
    (cond (px_inb (v6) 160)
    (px_bd (X 44 [.int (((M 46) (Int32.toNatClampNeg (v6)))), .ref (f2), .int (v3)] (hp M J R c e nL xs D))
    (fun v G1 => px_p (kX4_valueOf X) 74 19 ([some (.ref 43), some (.int (v1)), some (.ref (f2)), some (.int (v3)), some (.int (v4)), none, some (.int (v6))], px_psh v [.int (v4), .ref 47], G1))) none))) none := (px_run_eq _ _ _).trans rfl
set_option maxRecDepth 40000 in
theorem eX4_valueOf_43_212 (X : px_X) (M : Nat → Nat → Int32) (J : Nat → Nat → Int64) (R : Nat → Nat → Option Nat) (c e : Nat) (nL : Nat) (xs : Nat → Int32) (D : px_H) (v1 : Int32) (f2 : Nat) (v3 : Int32) (v4 : Int32) (o5 : Option Value) (v6 : Int32) : px_run (px_mk (kX4_valueOf X)) 212 ([some (.ref 43), some (.int (v1)), some (.ref (f2)), some (.int (v3)), some (.int (v4)), o5, some (.int (v6))], [], (hp M J R c e nL xs D)) =
    px_run (px_mk (kX4_valueOf X)) 25 ([some (.ref 43), some (.int (v1)), some (.ref (f2)), some (.int (v3)), some (.int (v4)), none, some (.int ((v6 + 1)))], [], (hp M J R c e nL xs D)) := (px_run_eq _ _ _).trans rfl
set_option maxRecDepth 40000 in
theorem eX4_valueOf_43_118 (X : px_X) (M : Nat → Nat → Int32) (J : Nat → Nat → Int64) (R : Nat → Nat → Option Nat) (c e : Nat) (nL : Nat) (xs : Nat → Int32) (D : px_H) (v1 : Int32) (f2 : Nat) (v3 : Int32) (v4 : Int32) (o5 : Option Value) (v6 : Int32) : px_run (px_mk (kX4_valueOf X)) 118 ([some (.ref 43), some (.int (v1)), some (.ref (f2)), some (.int (v3)), some (.int (v4)), o5, some (.int (v6))], [], (hp M J R c e nL xs D)) =
    cond (px_inb (v6) 160)
    (cond (decide (3 < ((M 45) (Int32.toNatClampNeg (v6)))))
    (px_run (px_mk (kX4_valueOf X)) 166 ([some (.ref 43), some (.int (v1)), some (.ref (f2)), some (.int (v3)), some (.int (v4)), none, some (.int (v6))], [], (hp M J R c e nL xs D)))
    (cond (decide (v4 < 1))
    (px_run (px_mk (kX4_valueOf X)) 166 ([some (.ref 43), some (.int (v1)), some (.ref (f2)), some (.int (v3)), some (.int (v4)), none, some (.int (v6))], [], (hp M J R c e nL xs D)))
    (cond (px_inb (v6) 160)
    (cond (px_inb ((v4 - 1)) 160)
    (px_bd (X 45 [.int (((M 45) (Int32.toNatClampNeg (v6)))), .int (((M 47) (Int32.toNatClampNeg ((v4 - 1)))))] (hp M J R c e nL xs D))
    (fun v G1 => px_p (kX4_valueOf X) 118 25 ([some (.ref 43), some (.int (v1)), some (.ref (f2)), some (.int (v3)), some (.int (v4)), none, some (.int (v6))], px_psh v [.int ((v4 - 1)), .ref 47], G1))) none) none))) none := (px_run_eq _ _ _).trans rfl
set_option maxRecDepth 40000 in
theorem eX4_valueOf_43_74_19 (X : px_X) (M : Nat → Nat → Int32) (J : Nat → Nat → Int64) (R : Nat → Nat → Option Nat) (c e : Nat) (nL : Nat) (xs : Nat → Int32) (D : px_H) (v1 : Int32) (f2 : Nat) (v3 : Int32) (v4 : Int32) (v6 : Int32) (w1 : Int32) (w2 : Int32) : px_p (kX4_valueOf X) 74 19 ([some (.ref 43), some (.int (v1)), some (.ref (f2)), some (.int (v3)), some (.int (v4)), none, some (.int (v6))], [.int (w2), .int (w1), .ref 47], (hp M J R c e nL xs D)) =
    cond (px_inb (w1) 160)
    (px_run (px_mk (kX4_valueOf X)) 212 ([some (.ref 43), some (.int (v1)), some (.ref (f2)), some (.int (v3)), some (.int ((v4 + 1))), none, some (.int (v6))], [], (hp (px_uR M 47 (upd (M 47) (Int32.toNatClampNeg (w1)) (w2))) J R c e nL xs D))) none := rfl
set_option maxRecDepth 40000 in
theorem eX4_valueOf_43_166 (X : px_X) (M : Nat → Nat → Int32) (J : Nat → Nat → Int64) (R : Nat → Nat → Option Nat) (c e : Nat) (nL : Nat) (xs : Nat → Int32) (D : px_H) (v1 : Int32) (f2 : Nat) (v3 : Int32) (v4 : Int32) (o5 : Option Value) (v6 : Int32) : px_run (px_mk (kX4_valueOf X)) 166 ([some (.ref 43), some (.int (v1)), some (.ref (f2)), some (.int (v3)), some (.int (v4)), o5, some (.int (v6))], [], (hp M J R c e nL xs D)) =
    cond (decide (v4 < 2))
    (px_run (px_mk (kX4_valueOf X)) 212 ([some (.ref 43), some (.int (v1)), some (.ref (f2)), some (.int (v3)), some (.int (v4)), none, some (.int (v6))], [], (hp M J R c e nL xs D)))
    (cond (px_inb (v6) 160)
    (cond (px_inb ((v4 - 2)) 160)
    (cond (px_inb ((v4 - 1)) 160)
    (px_bd (X 46 [.int (((M 45) (Int32.toNatClampNeg (v6)))), .int (((M 47) (Int32.toNatClampNeg ((v4 - 2))))), .int (((M 47) (Int32.toNatClampNeg ((v4 - 1)))))] (hp M J R c e nL xs D))
    (fun v G1 => px_p (kX4_valueOf X) 166 25 ([some (.ref 43), some (.int (v1)), some (.ref (f2)), some (.int (v3)), some (.int (v4)), none, some (.int (v6))], px_psh v [.int ((v4 - 2)), .ref 47], G1))) none) none) none) := (px_run_eq _ _ _).trans rfl
set_option maxRecDepth 40000 in
theorem eX4_valueOf_43_118_25 (X : px_X) (M : Nat → Nat → Int32) (J : Nat → Nat → Int64) (R : Nat → Nat → Option Nat) (c e : Nat) (nL : Nat) (xs : Nat → Int32) (D : px_H) (v1 : Int32) (f2 : Nat) (v3 : Int32) (v4 : Int32) (v6 : Int32) (w1 : Int32) (w2 : Int32) : px_p (kX4_valueOf X) 118 25 ([some (.ref 43), some (.int (v1)), some (.ref (f2)), some (.int (v3)), some (.int (v4)), none, some (.int (v6))], [.int (w2), .int (w1), .ref 47], (hp M J R c e nL xs D)) =
    cond (px_inb (w1) 160)
    (px_run (px_mk (kX4_valueOf X)) 212 ([some (.ref 43), some (.int (v1)), some (.ref (f2)), some (.int (v3)), some (.int (v4)), none, some (.int (v6))], [], (hp (px_uR M 47 (upd (M 47) (Int32.toNatClampNeg (w1)) (w2))) J R c e nL xs D))) none := rfl
set_option maxRecDepth 40000 in
theorem eX4_valueOf_43_166_25 (X : px_X) (M : Nat → Nat → Int32) (J : Nat → Nat → Int64) (R : Nat → Nat → Option Nat) (c e : Nat) (nL : Nat) (xs : Nat → Int32) (D : px_H) (v1 : Int32) (f2 : Nat) (v3 : Int32) (v4 : Int32) (v6 : Int32) (w1 : Int32) (w2 : Int32) : px_p (kX4_valueOf X) 166 25 ([some (.ref 43), some (.int (v1)), some (.ref (f2)), some (.int (v3)), some (.int (v4)), none, some (.int (v6))], [.int (w2), .int (w1), .ref 47], (hp M J R c e nL xs D)) =
    cond (px_inb (w1) 160)
    (px_run (px_mk (kX4_valueOf X)) 212 ([some (.ref 43), some (.int (v1)), some (.ref (f2)), some (.int (v3)), some (.int ((v4 + (-1)))), none, some (.int (v6))], [], (hp (px_uR M 47 (upd (M 47) (Int32.toNatClampNeg (w1)) (w2))) J R c e nL xs D))) none := rfl
set_option maxRecDepth 40000 in
theorem eX4_named_0 (X : px_X) (M : Nat → Nat → Int32) (J : Nat → Nat → Int64) (R : Nat → Nat → Option Nat) (c e : Nat) (nL : Nat) (xs : Nat → Int32) (D : px_H) (v0 : Int32) (f1 : Nat) (v2 : Int32) : px_run (px_mk (kX4_named X)) 0 ([some (.int (v0)), some (.ref (f1)), some (.int (v2))], [], (hp M J R c e nL xs D)) =
    cond (decide (v0 = 0))
    (px_run (px_mk (kX4_named X)) 36 ([some (.int (v0)), some (.ref (f1)), some (.int (v2))], [], (hp M J R c e nL xs D)))
    (cond (decide (v0 = 1))
    (px_run (px_mk (kX4_named X)) 41 ([some (.int (v0)), some (.ref (f1)), some (.int (v2))], [], (hp M J R c e nL xs D)))
    (cond (decide (v0 = 2))
    (px_run (px_mk (kX4_named X)) 46 ([some (.int (v0)), some (.ref (f1)), some (.int (v2))], [], (hp M J R c e nL xs D)))
    (cond (decide (v0 = 3))
    (px_run (px_mk (kX4_named X)) 51 ([some (.int (v0)), some (.ref (f1)), some (.int (v2))], [], (hp M J R c e nL xs D)))
    (cond (decide (v0 = 4))
    (px_run (px_mk (kX4_named X)) 56 ([some (.int (v0)), some (.ref (f1)), some (.int (v2))], [], (hp M J R c e nL xs D)))
    (px_run (px_mk (kX4_named X)) 61 ([some (.int (v0)), some (.ref (f1)), some (.int (v2))], [], (hp M J R c e nL xs D))))))) := (px_run_eq _ _ _).trans rfl
set_option maxRecDepth 40000 in
theorem eX4_named_61 (X : px_X) (M : Nat → Nat → Int32) (J : Nat → Nat → Int64) (R : Nat → Nat → Option Nat) (c e : Nat) (nL : Nat) (xs : Nat → Int32) (D : px_H) (o0 : Option Value) (o1 : Option Value) (v2 : Int32) : px_run (px_mk (kX4_named X)) 61 ([o0, o1, some (.int (v2))], [], (hp M J R c e nL xs D)) =
    some (some (.int (v2)), (hp M J R c e nL xs D)) := (px_run_eq _ _ _).trans rfl
set_option maxRecDepth 40000 in
theorem eX4_named_56 (X : px_X) (M : Nat → Nat → Int32) (J : Nat → Nat → Int64) (R : Nat → Nat → Option Nat) (c e : Nat) (nL : Nat) (xs : Nat → Int32) (D : px_H) (o0 : Option Value) (f1 : Nat) (o2 : Option Value) : px_run (px_mk (kX4_named X)) 56 ([o0, some (.ref (f1)), o2], [], (hp M J R c e nL xs D)) =
    px_p (kX4_named X) 56 1 ([none, some (.ref (f1)), none], [.ref (f1)], (hp M J R c e nL xs D)) := (px_run_eq _ _ _).trans rfl
set_option maxRecDepth 40000 in
theorem eX4_named_51 (X : px_X) (M : Nat → Nat → Int32) (J : Nat → Nat → Int64) (R : Nat → Nat → Option Nat) (c e : Nat) (nL : Nat) (xs : Nat → Int32) (D : px_H) (o0 : Option Value) (f1 : Nat) (o2 : Option Value) : px_run (px_mk (kX4_named X)) 51 ([o0, some (.ref (f1)), o2], [], (hp M J R c e nL xs D)) =
    px_p (kX4_named X) 51 1 ([none, some (.ref (f1)), none], [.ref (f1)], (hp M J R c e nL xs D)) := (px_run_eq _ _ _).trans rfl
set_option maxRecDepth 40000 in
theorem eX4_named_46 (X : px_X) (M : Nat → Nat → Int32) (J : Nat → Nat → Int64) (R : Nat → Nat → Option Nat) (c e : Nat) (nL : Nat) (xs : Nat → Int32) (D : px_H) (o0 : Option Value) (f1 : Nat) (o2 : Option Value) : px_run (px_mk (kX4_named X)) 46 ([o0, some (.ref (f1)), o2], [], (hp M J R c e nL xs D)) =
    px_p (kX4_named X) 46 1 ([none, some (.ref (f1)), none], [.ref (f1)], (hp M J R c e nL xs D)) := (px_run_eq _ _ _).trans rfl
set_option maxRecDepth 40000 in
theorem eX4_named_41 (X : px_X) (M : Nat → Nat → Int32) (J : Nat → Nat → Int64) (R : Nat → Nat → Option Nat) (c e : Nat) (nL : Nat) (xs : Nat → Int32) (D : px_H) (o0 : Option Value) (f1 : Nat) (o2 : Option Value) : px_run (px_mk (kX4_named X)) 41 ([o0, some (.ref (f1)), o2], [], (hp M J R c e nL xs D)) =
    px_p (kX4_named X) 41 1 ([none, some (.ref (f1)), none], [.ref (f1)], (hp M J R c e nL xs D)) := (px_run_eq _ _ _).trans rfl
set_option maxRecDepth 40000 in
theorem eX4_named_36 (X : px_X) (M : Nat → Nat → Int32) (J : Nat → Nat → Int64) (R : Nat → Nat → Option Nat) (c e : Nat) (nL : Nat) (xs : Nat → Int32) (D : px_H) (o0 : Option Value) (f1 : Nat) (o2 : Option Value) : px_run (px_mk (kX4_named X)) 36 ([o0, some (.ref (f1)), o2], [], (hp M J R c e nL xs D)) =
    px_p (kX4_named X) 36 1 ([none, some (.ref (f1)), none], [.ref (f1)], (hp M J R c e nL xs D)) := (px_run_eq _ _ _).trans rfl
set_option maxRecDepth 40000 in
theorem eX4_named_56_1 (X : px_X) (G : px_H) (f1 : Nat) (g0 : Nat) : px_p (kX4_named X) 56 1 ([none, some (.ref (f1)), none], [.ref (g0)], G) =
    cond (px_isc G (g0) 2)
    (px_bd (X 23 [.ref (g0)] G)
    (fun v G1 => px_p (kX4_named X) 56 2 ([none, some (.ref (f1)), none], px_psh v [], G1))) none := px_scallV rfl rfl rfl rfl
set_option maxRecDepth 40000 in
theorem eX4_named_51_1 (X : px_X) (G : px_H) (f1 : Nat) (g0 : Nat) : px_p (kX4_named X) 51 1 ([none, some (.ref (f1)), none], [.ref (g0)], G) =
    cond (px_isc G (g0) 2)
    (px_bd (X 22 [.ref (g0)] G)
    (fun v G1 => px_p (kX4_named X) 51 2 ([none, some (.ref (f1)), none], px_psh v [], G1))) none := px_scallV rfl rfl rfl rfl
set_option maxRecDepth 40000 in
theorem eX4_named_46_1 (X : px_X) (G : px_H) (f1 : Nat) (g0 : Nat) : px_p (kX4_named X) 46 1 ([none, some (.ref (f1)), none], [.ref (g0)], G) =
    px_vb (px_gf G (g0) 2 2) (fun v => px_p (kX4_named X) 46 2 ([none, some (.ref (f1)), none], v :: [], G)) := px_sgetf
set_option maxRecDepth 40000 in
theorem eX4_named_41_1 (X : px_X) (G : px_H) (f1 : Nat) (g0 : Nat) : px_p (kX4_named X) 41 1 ([none, some (.ref (f1)), none], [.ref (g0)], G) =
    px_vb (px_gf G (g0) 2 3) (fun v => px_p (kX4_named X) 41 2 ([none, some (.ref (f1)), none], v :: [], G)) := px_sgetf
set_option maxRecDepth 40000 in
theorem eX4_named_36_1 (X : px_X) (G : px_H) (f1 : Nat) (g0 : Nat) : px_p (kX4_named X) 36 1 ([none, some (.ref (f1)), none], [.ref (g0)], G) =
    px_vb (px_gf G (g0) 2 0) (fun v => px_p (kX4_named X) 36 2 ([none, some (.ref (f1)), none], v :: [], G)) := px_sgetf
set_option maxRecDepth 40000 in
theorem eX4_named_56_2 (X : px_X) (M : Nat → Nat → Int32) (J : Nat → Nat → Int64) (R : Nat → Nat → Option Nat) (c e : Nat) (nL : Nat) (xs : Nat → Int32) (D : px_H) (f1 : Nat) (w0 : Int32) : px_p (kX4_named X) 56 2 ([none, some (.ref (f1)), none], [.int (w0)], (hp M J R c e nL xs D)) =
    some (some (.int (w0)), (hp M J R c e nL xs D)) := rfl
set_option maxRecDepth 40000 in
theorem eX4_named_51_2 (X : px_X) (M : Nat → Nat → Int32) (J : Nat → Nat → Int64) (R : Nat → Nat → Option Nat) (c e : Nat) (nL : Nat) (xs : Nat → Int32) (D : px_H) (f1 : Nat) (w0 : Int32) : px_p (kX4_named X) 51 2 ([none, some (.ref (f1)), none], [.int (w0)], (hp M J R c e nL xs D)) =
    some (some (.int (w0)), (hp M J R c e nL xs D)) := rfl
set_option maxRecDepth 40000 in
theorem eX4_named_46_2 (X : px_X) (M : Nat → Nat → Int32) (J : Nat → Nat → Int64) (R : Nat → Nat → Option Nat) (c e : Nat) (nL : Nat) (xs : Nat → Int32) (D : px_H) (f1 : Nat) (w0 : Int32) : px_p (kX4_named X) 46 2 ([none, some (.ref (f1)), none], [.int (w0)], (hp M J R c e nL xs D)) =
    some (some (.int (w0)), (hp M J R c e nL xs D)) := rfl
set_option maxRecDepth 40000 in
theorem eX4_named_41_2 (X : px_X) (M : Nat → Nat → Int32) (J : Nat → Nat → Int64) (R : Nat → Nat → Option Nat) (c e : Nat) (nL : Nat) (xs : Nat → Int32) (D : px_H) (f1 : Nat) (w0 : Int32) : px_p (kX4_named X) 41 2 ([none, some (.ref (f1)), none], [.int (w0)], (hp M J R c e nL xs D)) =
    some (some (.int (w0)), (hp M J R c e nL xs D)) := rfl
set_option maxRecDepth 40000 in
theorem eX4_named_36_2 (X : px_X) (M : Nat → Nat → Int32) (J : Nat → Nat → Int64) (R : Nat → Nat → Option Nat) (c e : Nat) (nL : Nat) (xs : Nat → Int32) (D : px_H) (f1 : Nat) (w0 : Int32) : px_p (kX4_named X) 36 2 ([none, some (.ref (f1)), none], [.int (w0)], (hp M J R c e nL xs D)) =
    some (some (.int (w0)), (hp M J R c e nL xs D)) := rfl
set_option maxRecDepth 40000 in
theorem eX4_ofOne_0 (X : px_X) (M : Nat → Nat → Int32) (J : Nat → Nat → Int64) (R : Nat → Nat → Option Nat) (c e : Nat) (nL : Nat) (xs : Nat → Int32) (D : px_H) (v0 : Int32) (v1 : Int32) : px_run (px_mk (kX4_ofOne X)) 0 ([some (.int (v0)), some (.int (v1))], [], (hp M J R c e nL xs D)) =
    cond (decide (¬ v0 = 2))
    (px_run (px_mk (kX4_ofOne X)) 10 ([some (.int (v0)), some (.int (v1))], [], (hp M J R c e nL xs D)))
    (px_run (px_mk (kX4_ofOne X)) 22 ([some (.int (v0)), some (.int (v1))], [.int ((-v1))], (hp M J R c e nL xs D))) := (px_run_eq _ _ _).trans rfl
set_option maxRecDepth 40000 in
theorem eX4_ofOne_10 (X : px_X) (M : Nat → Nat → Int32) (J : Nat → Nat → Int64) (R : Nat → Nat → Option Nat) (c e : Nat) (nL : Nat) (xs : Nat → Int32) (D : px_H) (o0 : Option Value) (v1 : Int32) : px_run (px_mk (kX4_ofOne X)) 10 ([o0, some (.int (v1))], [], (hp M J R c e nL xs D)) =
    cond (decide (¬ v1 = 0))
    (px_run (px_mk (kX4_ofOne X)) 18 ([none, some (.int (v1))], [], (hp M J R c e nL xs D)))
    (px_run (px_mk (kX4_ofOne X)) 19 ([none, some (.int (v1))], [.int (1)], (hp M J R c e nL xs D))) := (px_run_eq _ _ _).trans rfl
set_option maxRecDepth 40000 in
theorem eX4_ofOne_22 (X : px_X) (M : Nat → Nat → Int32) (J : Nat → Nat → Int64) (R : Nat → Nat → Option Nat) (c e : Nat) (nL : Nat) (xs : Nat → Int32) (D : px_H) (o0 : Option Value) (o1 : Option Value) (w0 : Int32) : px_run (px_mk (kX4_ofOne X)) 22 ([o0, o1], [.int (w0)], (hp M J R c e nL xs D)) =
    some (some (.int (w0)), (hp M J R c e nL xs D)) := (px_run_eq _ _ _).trans rfl
set_option maxRecDepth 40000 in
theorem eX4_ofOne_18 (X : px_X) (M : Nat → Nat → Int32) (J : Nat → Nat → Int64) (R : Nat → Nat → Option Nat) (c e : Nat) (nL : Nat) (xs : Nat → Int32) (D : px_H) (o0 : Option Value) (o1 : Option Value) : px_run (px_mk (kX4_ofOne X)) 18 ([o0, o1], [], (hp M J R c e nL xs D)) =
    px_run (px_mk (kX4_ofOne X)) 19 ([none, none], [.int (0)], (hp M J R c e nL xs D)) := (px_run_eq _ _ _).trans rfl
set_option maxRecDepth 40000 in
theorem eX4_ofOne_19_1 (X : px_X) (st : px_S) : px_p (kX4_ofOne X) 19 1 st = px_run (px_mk (kX4_ofOne X)) 22 st := rfl
set_option maxRecDepth 40000 in
theorem eX4_ofOne_19 (X : px_X) (M : Nat → Nat → Int32) (J : Nat → Nat → Int64) (R : Nat → Nat → Option Nat) (c e : Nat) (nL : Nat) (xs : Nat → Int32) (D : px_H) (o0 : Option Value) (o1 : Option Value) (w0 : Int32) : px_run (px_mk (kX4_ofOne X)) 19 ([o0, o1], [.int (w0)], (hp M J R c e nL xs D)) =
    px_bd (X 47 [.int (w0)] (hp M J R c e nL xs D))
    (fun v G1 => px_p (kX4_ofOne X) 19 1 ([none, none], px_psh v [], G1)) := (px_run_eq _ _ _).trans rfl
set_option maxRecDepth 40000 in
theorem eX4_ofTwo_0 (X : px_X) (M : Nat → Nat → Int32) (J : Nat → Nat → Int64) (R : Nat → Nat → Option Nat) (c e : Nat) (nL : Nat) (xs : Nat → Int32) (D : px_H) (v0 : Int32) (v1 : Int32) (v2 : Int32) : px_run (px_mk (kX4_ofTwo X)) 0 ([some (.int (v0)), some (.int (v1)), some (.int (v2))], [], (hp M J R c e nL xs D)) =
    cond (decide (v0 = 4))
    (px_run (px_mk (kX4_ofTwo X)) 40 ([some (.int (v0)), some (.int (v1)), some (.int (v2))], [], (hp M J R c e nL xs D)))
    (cond (decide (v0 = 5))
    (px_run (px_mk (kX4_ofTwo X)) 44 ([some (.int (v0)), some (.int (v1)), some (.int (v2))], [], (hp M J R c e nL xs D)))
    (cond (decide (v0 = 6))
    (px_run (px_mk (kX4_ofTwo X)) 48 ([some (.int (v0)), some (.int (v1)), some (.int (v2))], [], (hp M J R c e nL xs D)))
    (cond (decide (v0 = 7))
    (px_run (px_mk (kX4_ofTwo X)) 52 ([some (.int (v0)), some (.int (v1)), some (.int (v2))], [], (hp M J R c e nL xs D)))
    (cond (decide (v0 = 8))
    (px_run (px_mk (kX4_ofTwo X)) 66 ([some (.int (v0)), some (.int (v1)), some (.int (v2))], [], (hp M J R c e nL xs D)))
    (cond (decide (v0 = 9))
    (px_run (px_mk (kX4_ofTwo X)) 80 ([some (.int (v0)), some (.int (v1)), some (.int (v2))], [], (hp M J R c e nL xs D)))
    (px_run (px_mk (kX4_ofTwo X)) 97 ([some (.int (v0)), some (.int (v1)), some (.int (v2))], [], (hp M J R c e nL xs D)))))))) := (px_run_eq _ _ _).trans rfl
set_option maxRecDepth 40000 in
theorem eX4_ofTwo_97 (X : px_X) (M : Nat → Nat → Int32) (J : Nat → Nat → Int64) (R : Nat → Nat → Option Nat) (c e : Nat) (nL : Nat) (xs : Nat → Int32) (D : px_H) (o0 : Option Value) (v1 : Int32) (v2 : Int32) : px_run (px_mk (kX4_ofTwo X)) 97 ([o0, some (.int (v1)), some (.int (v2))], [], (hp M J R c e nL xs D)) =
    cond (decide (¬ v1 = 0))
    (px_run (px_mk (kX4_ofTwo X)) 105 ([none, some (.int (v1)), some (.int (v2))], [], (hp M J R c e nL xs D)))
    (cond (decide (v2 = 0))
    (px_run (px_mk (kX4_ofTwo X)) 109 ([none, some (.int (v1)), some (.int (v2))], [], (hp M J R c e nL xs D)))
    (px_run (px_mk (kX4_ofTwo X)) 105 ([none, some (.int (v1)), some (.int (v2))], [], (hp M J R c e nL xs D)))) := (px_run_eq _ _ _).trans rfl
set_option maxRecDepth 40000 in
theorem eX4_ofTwo_80 (X : px_X) (M : Nat → Nat → Int32) (J : Nat → Nat → Int64) (R : Nat → Nat → Option Nat) (c e : Nat) (nL : Nat) (xs : Nat → Int32) (D : px_H) (o0 : Option Value) (v1 : Int32) (v2 : Int32) : px_run (px_mk (kX4_ofTwo X)) 80 ([o0, some (.int (v1)), some (.int (v2))], [], (hp M J R c e nL xs D)) =
    cond (decide (v1 = 0))
    (px_run (px_mk (kX4_ofTwo X)) 92 ([none, some (.int (v1)), some (.int (v2))], [], (hp M J R c e nL xs D)))
    (cond (decide (v2 = 0))
    (px_run (px_mk (kX4_ofTwo X)) 92 ([none, some (.int (v1)), some (.int (v2))], [], (hp M J R c e nL xs D)))
    (px_run (px_mk (kX4_ofTwo X)) 93 ([none, some (.int (v1)), some (.int (v2))], [.int (1)], (hp M J R c e nL xs D)))) := (px_run_eq _ _ _).trans rfl
set_option maxRecDepth 40000 in
theorem eX4_ofTwo_66 (X : px_X) (M : Nat → Nat → Int32) (J : Nat → Nat → Int64) (R : Nat → Nat → Option Nat) (c e : Nat) (nL : Nat) (xs : Nat → Int32) (D : px_H) (o0 : Option Value) (v1 : Int32) (v2 : Int32) : px_run (px_mk (kX4_ofTwo X)) 66 ([o0, some (.int (v1)), some (.int (v2))], [], (hp M J R c e nL xs D)) =
    cond (decide (¬ v1 = v2))
    (px_run (px_mk (kX4_ofTwo X)) 75 ([none, some (.int (v1)), some (.int (v2))], [], (hp M J R c e nL xs D)))
    (px_run (px_mk (kX4_ofTwo X)) 76 ([none, some (.int (v1)), some (.int (v2))], [.int (1)], (hp M J R c e nL xs D))) := (px_run_eq _ _ _).trans rfl
set_option maxRecDepth 40000 in
theorem eX4_ofTwo_52 (X : px_X) (M : Nat → Nat → Int32) (J : Nat → Nat → Int64) (R : Nat → Nat → Option Nat) (c e : Nat) (nL : Nat) (xs : Nat → Int32) (D : px_H) (o0 : Option Value) (v1 : Int32) (v2 : Int32) : px_run (px_mk (kX4_ofTwo X)) 52 ([o0, some (.int (v1)), some (.int (v2))], [], (hp M J R c e nL xs D)) =
    cond (decide (v2 ≤ v1))
    (px_run (px_mk (kX4_ofTwo X)) 61 ([none, some (.int (v1)), some (.int (v2))], [], (hp M J R c e nL xs D)))
    (px_run (px_mk (kX4_ofTwo X)) 62 ([none, some (.int (v1)), some (.int (v2))], [.int (1)], (hp M J R c e nL xs D))) := (px_run_eq _ _ _).trans rfl
set_option maxRecDepth 40000 in
theorem eX4_ofTwo_48 (X : px_X) (M : Nat → Nat → Int32) (J : Nat → Nat → Int64) (R : Nat → Nat → Option Nat) (c e : Nat) (nL : Nat) (xs : Nat → Int32) (D : px_H) (o0 : Option Value) (v1 : Int32) (v2 : Int32) : px_run (px_mk (kX4_ofTwo X)) 48 ([o0, some (.int (v1)), some (.int (v2))], [], (hp M J R c e nL xs D)) =
    some (some (.int ((v1 - v2))), (hp M J R c e nL xs D)) := (px_run_eq _ _ _).trans rfl
set_option maxRecDepth 40000 in
theorem eX4_ofTwo_44 (X : px_X) (M : Nat → Nat → Int32) (J : Nat → Nat → Int64) (R : Nat → Nat → Option Nat) (c e : Nat) (nL : Nat) (xs : Nat → Int32) (D : px_H) (o0 : Option Value) (v1 : Int32) (v2 : Int32) : px_run (px_mk (kX4_ofTwo X)) 44 ([o0, some (.int (v1)), some (.int (v2))], [], (hp M J R c e nL xs D)) =
    some (some (.int ((v1 + v2))), (hp M J R c e nL xs D)) := (px_run_eq _ _ _).trans rfl
set_option maxRecDepth 40000 in
theorem eX4_ofTwo_40 (X : px_X) (M : Nat → Nat → Int32) (J : Nat → Nat → Int64) (R : Nat → Nat → Option Nat) (c e : Nat) (nL : Nat) (xs : Nat → Int32) (D : px_H) (o0 : Option Value) (v1 : Int32) (v2 : Int32) : px_run (px_mk (kX4_ofTwo X)) 40 ([o0, some (.int (v1)), some (.int (v2))], [], (hp M J R c e nL xs D)) =
    some (some (.int ((v1 * v2))), (hp M J R c e nL xs D)) := (px_run_eq _ _ _).trans rfl
set_option maxRecDepth 40000 in
theorem eX4_ofTwo_105 (X : px_X) (M : Nat → Nat → Int32) (J : Nat → Nat → Int64) (R : Nat → Nat → Option Nat) (c e : Nat) (nL : Nat) (xs : Nat → Int32) (D : px_H) (o0 : Option Value) (o1 : Option Value) (o2 : Option Value) : px_run (px_mk (kX4_ofTwo X)) 105 ([o0, o1, o2], [], (hp M J R c e nL xs D)) =
    px_run (px_mk (kX4_ofTwo X)) 110 ([none, none, none], [.int (1)], (hp M J R c e nL xs D)) := (px_run_eq _ _ _).trans rfl
set_option maxRecDepth 40000 in
theorem eX4_ofTwo_109 (X : px_X) (M : Nat → Nat → Int32) (J : Nat → Nat → Int64) (R : Nat → Nat → Option Nat) (c e : Nat) (nL : Nat) (xs : Nat → Int32) (D : px_H) (o0 : Option Value) (o1 : Option Value) (o2 : Option Value) : px_run (px_mk (kX4_ofTwo X)) 109 ([o0, o1, o2], [], (hp M J R c e nL xs D)) =
    px_run (px_mk (kX4_ofTwo X)) 110 ([none, none, none], [.int (0)], (hp M J R c e nL xs D)) := (px_run_eq _ _ _).trans rfl
set_option maxRecDepth 40000 in
theorem eX4_ofTwo_92 (X : px_X) (M : Nat → Nat → Int32) (J : Nat → Nat → Int64) (R : Nat → Nat → Option Nat) (c e : Nat) (nL : Nat) (xs : Nat → Int32) (D : px_H) (o0 : Option Value) (o1 : Option Value) (o2 : Option Value) : px_run (px_mk (kX4_ofTwo X)) 92 ([o0, o1, o2], [], (hp M J R c e nL xs D)) =
    px_run (px_mk (kX4_ofTwo X)) 93 ([none, none, none], [.int (0)], (hp M J R c e nL xs D)) := (px_run_eq _ _ _).trans rfl
set_option maxRecDepth 40000 in
theorem eX4_ofTwo_93 (X : px_X) (M : Nat → Nat → Int32) (J : Nat → Nat → Int64) (R : Nat → Nat → Option Nat) (c e : Nat) (nL : Nat) (xs : Nat → Int32) (D : px_H) (o0 : Option Value) (o1 : Option Value) (o2 : Option Value) (w0 : Int32) : px_run (px_mk (kX4_ofTwo X)) 93 ([o0, o1, o2], [.int (w0)], (hp M J R c e nL xs D)) =
    px_bd (X 47 [.int (w0)] (hp M J R c e nL xs D))
    (fun v G1 => px_p (kX4_ofTwo X) 93 1 ([none, none, none], px_psh v [], G1)) := (px_run_eq _ _ _).trans rfl
set_option maxRecDepth 40000 in
theorem eX4_ofTwo_75 (X : px_X) (M : Nat → Nat → Int32) (J : Nat → Nat → Int64) (R : Nat → Nat → Option Nat) (c e : Nat) (nL : Nat) (xs : Nat → Int32) (D : px_H) (o0 : Option Value) (o1 : Option Value) (o2 : Option Value) : px_run (px_mk (kX4_ofTwo X)) 75 ([o0, o1, o2], [], (hp M J R c e nL xs D)) =
    px_run (px_mk (kX4_ofTwo X)) 76 ([none, none, none], [.int (0)], (hp M J R c e nL xs D)) := (px_run_eq _ _ _).trans rfl
set_option maxRecDepth 40000 in
theorem eX4_ofTwo_76 (X : px_X) (M : Nat → Nat → Int32) (J : Nat → Nat → Int64) (R : Nat → Nat → Option Nat) (c e : Nat) (nL : Nat) (xs : Nat → Int32) (D : px_H) (o0 : Option Value) (o1 : Option Value) (o2 : Option Value) (w0 : Int32) : px_run (px_mk (kX4_ofTwo X)) 76 ([o0, o1, o2], [.int (w0)], (hp M J R c e nL xs D)) =
    px_bd (X 47 [.int (w0)] (hp M J R c e nL xs D))
    (fun v G1 => px_p (kX4_ofTwo X) 76 1 ([none, none, none], px_psh v [], G1)) := (px_run_eq _ _ _).trans rfl
set_option maxRecDepth 40000 in
theorem eX4_ofTwo_61 (X : px_X) (M : Nat → Nat → Int32) (J : Nat → Nat → Int64) (R : Nat → Nat → Option Nat) (c e : Nat) (nL : Nat) (xs : Nat → Int32) (D : px_H) (o0 : Option Value) (o1 : Option Value) (o2 : Option Value) : px_run (px_mk (kX4_ofTwo X)) 61 ([o0, o1, o2], [], (hp M J R c e nL xs D)) =
    px_run (px_mk (kX4_ofTwo X)) 62 ([none, none, none], [.int (0)], (hp M J R c e nL xs D)) := (px_run_eq _ _ _).trans rfl
set_option maxRecDepth 40000 in
theorem eX4_ofTwo_62 (X : px_X) (M : Nat → Nat → Int32) (J : Nat → Nat → Int64) (R : Nat → Nat → Option Nat) (c e : Nat) (nL : Nat) (xs : Nat → Int32) (D : px_H) (o0 : Option Value) (o1 : Option Value) (o2 : Option Value) (w0 : Int32) : px_run (px_mk (kX4_ofTwo X)) 62 ([o0, o1, o2], [.int (w0)], (hp M J R c e nL xs D)) =
    px_bd (X 47 [.int (w0)] (hp M J R c e nL xs D))
    (fun v G1 => px_p (kX4_ofTwo X) 62 1 ([none, none, none], px_psh v [], G1)) := (px_run_eq _ _ _).trans rfl
set_option maxRecDepth 40000 in
theorem eX4_ofTwo_110 (X : px_X) (M : Nat → Nat → Int32) (J : Nat → Nat → Int64) (R : Nat → Nat → Option Nat) (c e : Nat) (nL : Nat) (xs : Nat → Int32) (D : px_H) (o0 : Option Value) (o1 : Option Value) (o2 : Option Value) (w0 : Int32) : px_run (px_mk (kX4_ofTwo X)) 110 ([o0, o1, o2], [.int (w0)], (hp M J R c e nL xs D)) =
    px_bd (X 47 [.int (w0)] (hp M J R c e nL xs D))
    (fun v G1 => px_p (kX4_ofTwo X) 110 1 ([none, none, none], px_psh v [], G1)) := (px_run_eq _ _ _).trans rfl
set_option maxRecDepth 40000 in
theorem eX4_ofTwo_93_1 (X : px_X) (M : Nat → Nat → Int32) (J : Nat → Nat → Int64) (R : Nat → Nat → Option Nat) (c e : Nat) (nL : Nat) (xs : Nat → Int32) (D : px_H) (w0 : Int32) : px_p (kX4_ofTwo X) 93 1 ([none, none, none], [.int (w0)], (hp M J R c e nL xs D)) =
    some (some (.int (w0)), (hp M J R c e nL xs D)) := rfl
set_option maxRecDepth 40000 in
theorem eX4_ofTwo_76_1 (X : px_X) (M : Nat → Nat → Int32) (J : Nat → Nat → Int64) (R : Nat → Nat → Option Nat) (c e : Nat) (nL : Nat) (xs : Nat → Int32) (D : px_H) (w0 : Int32) : px_p (kX4_ofTwo X) 76 1 ([none, none, none], [.int (w0)], (hp M J R c e nL xs D)) =
    some (some (.int (w0)), (hp M J R c e nL xs D)) := rfl
set_option maxRecDepth 40000 in
theorem eX4_ofTwo_62_1 (X : px_X) (M : Nat → Nat → Int32) (J : Nat → Nat → Int64) (R : Nat → Nat → Option Nat) (c e : Nat) (nL : Nat) (xs : Nat → Int32) (D : px_H) (w0 : Int32) : px_p (kX4_ofTwo X) 62 1 ([none, none, none], [.int (w0)], (hp M J R c e nL xs D)) =
    some (some (.int (w0)), (hp M J R c e nL xs D)) := rfl
set_option maxRecDepth 40000 in
theorem eX4_ofTwo_110_1 (X : px_X) (M : Nat → Nat → Int32) (J : Nat → Nat → Int64) (R : Nat → Nat → Option Nat) (c e : Nat) (nL : Nat) (xs : Nat → Int32) (D : px_H) (w0 : Int32) : px_p (kX4_ofTwo X) 110 1 ([none, none, none], [.int (w0)], (hp M J R c e nL xs D)) =
    some (some (.int (w0)), (hp M J R c e nL xs D)) := rfl
set_option maxRecDepth 40000 in
theorem eX4_truth_0 (X : px_X) (M : Nat → Nat → Int32) (J : Nat → Nat → Int64) (R : Nat → Nat → Option Nat) (c e : Nat) (nL : Nat) (xs : Nat → Int32) (D : px_H) (v0 : Int32) : px_run (px_mk (kX4_truth X)) 0 ([some (.int (v0))], [], (hp M J R c e nL xs D)) =
    cond (decide (v0 = 0))
    (px_run (px_mk (kX4_truth X)) 8 ([some (.int (v0))], [], (hp M J R c e nL xs D)))
    (px_run (px_mk (kX4_truth X)) 9 ([some (.int (v0))], [.int (1)], (hp M J R c e nL xs D))) := (px_run_eq _ _ _).trans rfl
set_option maxRecDepth 40000 in
theorem eX4_truth_8 (X : px_X) (M : Nat → Nat → Int32) (J : Nat → Nat → Int64) (R : Nat → Nat → Option Nat) (c e : Nat) (nL : Nat) (xs : Nat → Int32) (D : px_H) (o0 : Option Value) : px_run (px_mk (kX4_truth X)) 8 ([o0], [], (hp M J R c e nL xs D)) =
    px_run (px_mk (kX4_truth X)) 9 ([none], [.int (0)], (hp M J R c e nL xs D)) := (px_run_eq _ _ _).trans rfl
set_option maxRecDepth 40000 in
theorem eX4_truth_9 (X : px_X) (M : Nat → Nat → Int32) (J : Nat → Nat → Int64) (R : Nat → Nat → Option Nat) (c e : Nat) (nL : Nat) (xs : Nat → Int32) (D : px_H) (o0 : Option Value) (w0 : Int32) : px_run (px_mk (kX4_truth X)) 9 ([o0], [.int (w0)], (hp M J R c e nL xs D)) =
    some (some (.int (w0)), (hp M J R c e nL xs D)) := (px_run_eq _ _ _).trans rfl
