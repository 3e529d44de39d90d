/-! block equations over the fixed layout (written by wip/whole/seg.py) -/
set_option maxRecDepth 40000 in
theorem eX3_addTask_0 (X : px_X) (M : Nat → Nat → Int32) (J : Nat → Nat → Int64) (R : Nat → Nat → Option Nat) (c e : Nat) (nL : Nat) (xs : Nat → Int32) (D : px_H) (v1 : Int32) (v2 : Int32) : px_run (px_mk (kX3_addTask X)) 0 ([some (.ref 51), some (.int (v1)), some (.int (v2)), none, none, none], [], (hp M J R c e nL xs D)) =
    cond (decide (v1 < 1))
    (px_run (px_mk (kX3_addTask X)) 23 ([some (.ref 51), some (.int (v1)), some (.int (v2)), none, none, none], [], (hp M J R c e nL xs D)))
    (cond (decide (200 < v1))
    (px_run (px_mk (kX3_addTask X)) 23 ([some (.ref 51), some (.int (v1)), some (.int (v2)), none, none, none], [], (hp M J R c e nL xs D)))
    (cond (decide (v2 < 0))
    (px_run (px_mk (kX3_addTask X)) 23 ([some (.ref 51), some (.int (v1)), some (.int (v2)), none, none, none], [], (hp M J R c e nL xs D)))
    (cond (decide (v2 ≤ 999))
    (px_run (px_mk (kX3_addTask X)) 26 ([some (.ref 51), some (.int (v1)), some (.int (v2)), none, none, none], [], (hp M J R c e nL xs D)))
    (px_run (px_mk (kX3_addTask X)) 23 ([some (.ref 51), some (.int (v1)), some (.int (v2)), none, none, none], [], (hp M J R c e nL xs D)))))) := (px_run_eq _ _ _).trans rfl
set_option maxRecDepth 40000 in
theorem eX3_addTask_23 (X : px_X) (M : Nat → Nat → Int32) (J : Nat → Nat → Int64) (R : Nat → Nat → Option Nat) (c e : Nat) (nL : Nat) (xs : Nat → Int32) (D : px_H) (o0 : Option Value) (o1 : Option Value) (o2 : Option Value) (o3 : Option Value) (o4 : Option Value) (o5 : Option Value) : px_run (px_mk (kX3_addTask X)) 23 ([o0, o1, o2, o3, o4, o5], [], (hp M J R c e nL xs D)) =
    some (some (.int ((-2))), (hp M J R c e nL xs D)) := (px_run_eq _ _ _).trans rfl
set_option maxRecDepth 40000 in
theorem eX3_addTask_26 (X : px_X) (M : Nat → Nat → Int32) (J : Nat → Nat → Int64) (R : Nat → Nat → Option Nat) (c e : Nat) (nL : Nat) (xs : Nat → Int32) (D : px_H) (v1 : Int32) (v2 : Int32) (o3 : Option Value) (o4 : Option Value) (o5 : Option Value) : px_run (px_mk (kX3_addTask X)) 26 ([some (.ref 51), some (.int (v1)), some (.int (v2)), o3, o4, o5], [], (hp M J R c e nL xs D)) =
    cond (decide (M 51 0 < 9))
    (px_run (px_mk (kX3_addTask X)) 38 ([some (.ref 51), some (.int (v1)), some (.int (v2)), none, none, none], [], (hp M J R c e nL xs D)))
    (some (some (.int ((-4))), (hp M J R c e nL xs D))) := (px_run_eq _ _ _).trans rfl
set_option maxRecDepth 40000 in
theorem eX3_addTask_38 (X : px_X) (M : Nat → Nat → Int32) (J : Nat → Nat → Int64) (R : Nat → Nat → Option Nat) (c e : Nat) (nL : Nat) (xs : Nat → Int32) (D : px_H) (v1 : Int32) (v2 : Int32) (o3 : Option Value) (o4 : Option Value) (o5 : Option Value) : px_run (px_mk (kX3_addTask X)) 38 ([some (.ref 51), some (.int (v1)), some (.int (v2)), o3, o4, o5], [], (hp M J R c e nL xs D)) =
    px_run (px_mk (kX3_addTask X)) 44 ([some (.ref 51), some (.int (v1)), some (.int (v2)), some (.int (390625)), some (.int (0)), none], [], (hp M J R c e nL xs D)) := (px_run_eq _ _ _).trans rfl
set_option maxRecDepth 40000 in
theorem eX3_addTask_44 (X : px_X) (M : Nat → Nat → Int32) (J : Nat → Nat → Int64) (R : Nat → Nat → Option Nat) (c e : Nat) (nL : Nat) (xs : Nat → Int32) (D : px_H) (v1 : Int32) (v2 : Int32) (v3 : Int32) (v4 : Int32) (o5 : Option Value) : px_run (px_mk (kX3_addTask X)) 44 ([some (.ref 51), some (.int (v1)), some (.int (v2)), some (.int (v3)), some (.int (v4)), o5], [], (hp M J R c e nL xs D)) =
    cond (decide (M 51 0 ≤ v4))
    (px_run (px_mk (kX3_addTask X)) 63 ([some (.ref 51), some (.int (v1)), some (.int (v2)), some (.int (v3)), some (.int (v4)), none], [], (hp M J R c e nL xs D)))
    (px_run (px_mk (kX3_addTask X)) 44 ([some (.ref 51), some (.int (v1)), some (.int (v2)), some (.int ((v3 / 5))), some (.int ((v4 + 1))), none], [], (hp M J R c e nL xs D))) := (px_run_eq _ _ _).trans rfl
set_option maxRecDepth 40000 in
theorem eX3_addTask_63 (X : px_X) (M : Nat → Nat → Int32) (J : Nat → Nat → Int64) (R : Nat → Nat → Option Nat) (c e : Nat) (nL : Nat) (xs : Nat → Int32) (D : px_H) (v1 : Int32) (v2 : Int32) (v3 : Int32) (o4 : Option Value) (o5 : Option Value) : px_run (px_mk (kX3_addTask X)) 63 ([some (.ref 51), some (.int (v1)), some (.int (v2)), some (.int (v3)), o4, o5], [], (hp M J R c e nL xs D)) =
    px_run (px_mk (kX3_addTask X)) 74 ([some (.ref 51), some (.int (v1)), some (.int (v2)), some (.int (v3)), some (.int ((1 <<< (M 51 0 &&& 31)))), some (.int (0))], [], (hp M J R c e nL xs D)) := (px_run_eq _ _ _).trans rfl
set_option maxRecDepth 40000 in
theorem eX3_addTask_74 (X : px_X) (M : Nat → Nat → Int32) (J : Nat → Nat → Int64) (R : Nat → Nat → Option Nat) (c e : Nat) (nL : Nat) (xs : Nat → Int32) (D : px_H) (v1 : Int32) (v2 : Int32) (v3 : Int32) (v4 : Int32) (v5 : Int32) : px_run (px_mk (kX3_addTask X)) 74 ([some (.ref 51), some (.int (v1)), some (.int (v2)), some (.int (v3)), some (.int (v4)), some (.int (v5))], [], (hp M J R c e nL xs D)) =
    cond (decide (v4 ≤ v5))
    (px_run (px_mk (kX3_addTask X)) 149 ([some (.ref 51), some (.int (v1)), some (.int (v2)), some (.int (v3)), some (.int (v4)), some (.int (v5))], [], (hp M J R c e nL xs D)))
    (cond (px_inb (v5) 512)
    (cond (px_inb ((v4 + v5)) 512)
    (cond (px_inb (v5) 512)
    (cond (px_inb ((v4 + v5)) 512)
    (cond (px_inb (v5) 512)
    (cond (px_inb ((v4 + v5)) 512)
    (px_run (px_mk (kX3_addTask X)) 74 ([some (.ref 51), some (.int (v1)), some (.int (v2)), some (.int (v3)), some (.int (v4)), some (.int ((v5 + 1)))], [], (hp (px_uR (px_uR M 53 (upd (M 53) (Int32.toNatClampNeg ((v4 + v5))) ((((M 53) (Int32.toNatClampNeg (v5))) + v1)))) 54 (upd (M 54) (Int32.toNatClampNeg ((v4 + v5))) ((((M 54) (Int32.toNatClampNeg (v5))) + v3)))) (px_uJ J 55 (vp_updL (J 55) (Int32.toNatClampNeg ((v4 + v5))) (((J 55 (Int32.toNatClampNeg (v5))) + ((Int32.toInt64 v2) * 1953125))))) R c e nL xs D))) none) none) none) none) none) none) := (px_run_eq _ _ _).trans rfl
set_option maxRecDepth 40000 in
theorem eX3_addTask_149 (X : px_X) (M : Nat → Nat → Int32) (J : Nat → Nat → Int64) (R : Nat → Nat → Option Nat) (c e : Nat) (nL : Nat) (xs : Nat → Int32) (D : px_H) (o1 : Option Value) (o2 : Option Value) (o3 : Option Value) (o4 : Option Value) (o5 : Option Value) : px_run (px_mk (kX3_addTask X)) 149 ([some (.ref 51), o1, o2, o3, o4, o5], [], (hp M J R c e nL xs D)) =
    some (some (.int (((M 51 0 + 1) - 1))), (hp (px_uR M 51 (upd (upd (M 51) 0 ((M 51 0 + 1))) 7 (0))) J R c e nL xs D)) := (px_run_eq _ _ _).trans rfl
set_option maxRecDepth 40000 in
theorem eX3_addGang_0 (X : px_X) (M : Nat → Nat → Int32) (J : Nat → Nat → Int64) (R : Nat → Nat → Option Nat) (c e : Nat) (nL : Nat) (xs : Nat → Int32) (D : px_H) (v1 : Int32) : px_run (px_mk (kX3_addGang X)) 0 ([some (.ref 51), some (.int (v1))], [], (hp M J R c e nL xs D)) =
    cond (decide (v1 < 0))
    (px_run (px_mk (kX3_addGang X)) 11 ([some (.ref 51), some (.int (v1))], [], (hp M J R c e nL xs D)))
    (cond (decide (v1 ≤ 400))
    (px_run (px_mk (kX3_addGang X)) 14 ([some (.ref 51), some (.int (v1))], [], (hp M J R c e nL xs D)))
    (px_run (px_mk (kX3_addGang X)) 11 ([some (.ref 51), some (.int (v1))], [], (hp M J R c e nL xs D)))) := (px_run_eq _ _ _).trans rfl
set_option maxRecDepth 40000 in
theorem eX3_addGang_11 (X : px_X) (M : Nat → Nat → Int32) (J : Nat → Nat → Int64) (R : Nat → Nat → Option Nat) (c e : Nat) (nL : Nat) (xs : Nat → Int32) (D : px_H) (o0 : Option Value) (o1 : Option Value) : px_run (px_mk (kX3_addGang X)) 11 ([o0, o1], [], (hp M J R c e nL xs D)) =
    some (some (.int ((-2))), (hp M J R c e nL xs D)) := (px_run_eq _ _ _).trans rfl
set_option maxRecDepth 40000 in
theorem eX3_addGang_14 (X : px_X) (M : Nat → Nat → Int32) (J : Nat → Nat → Int64) (R : Nat → Nat → Option Nat) (c e : Nat) (nL : Nat) (xs : Nat → Int32) (D : px_H) (v1 : Int32) : px_run (px_mk (kX3_addGang X)) 14 ([some (.ref 51), some (.int (v1))], [], (hp M J R c e nL xs D)) =
    cond (decide (M 51 1 < 4))
    (px_run (px_mk (kX3_addGang X)) 25 ([some (.ref 51), some (.int (v1))], [], (hp M J R c e nL xs D)))
    (some (some (.int ((-4))), (hp M J R c e nL xs D))) := (px_run_eq _ _ _).trans rfl
set_option maxRecDepth 40000 in
theorem eX3_addGang_25 (X : px_X) (M : Nat → Nat → Int32) (J : Nat → Nat → Int64) (R : Nat → Nat → Option Nat) (c e : Nat) (nL : Nat) (xs : Nat → Int32) (D : px_H) (v1 : Int32) : px_run (px_mk (kX3_addGang X)) 25 ([some (.ref 51), some (.int (v1))], [], (hp M J R c e nL xs D)) =
    cond (px_inb (M 51 1) 4)
    (some (some (.int (((M 51 1 + 1) - 1))), (hp (px_uR (px_uR M 52 (upd (M 52) (Int32.toNatClampNeg (M 51 1)) (v1))) 51 (upd (upd (M 51) 1 ((M 51 1 + 1))) 7 (0))) J R c e nL xs D))) none := (px_run_eq _ _ _).trans rfl
set_option maxRecDepth 40000 in
theorem eX3_greatestWorth_0 (X : px_X) (M : Nat → Nat → Int32) (J : Nat → Nat → Int64) (R : Nat → Nat → Option Nat) (c e : Nat) (nL : Nat) (xs : Nat → Int32) (D : px_H)  : px_run (px_mk (kX3_greatestWorth X)) 0 ([some (.ref 51)], [], (hp M J R c e nL xs D)) =
    px_bd (X 35 [.ref 51] (hp M J R c e nL xs D))
    (fun v G1 => px_p (kX3_greatestWorth X) 0 2 ([some (.ref 51)], px_psh v [], G1)) := (px_run_eq _ _ _).trans rfl
set_option maxRecDepth 40000 in
theorem eX3_greatestWorth_0_2 (X : px_X) (M : Nat → Nat → Int32) (J : Nat → Nat → Int64) (R : Nat → Nat → Option Nat) (c e : Nat) (nL : Nat) (xs : Nat → Int32) (D : px_H)  : px_p (kX3_greatestWorth X) 0 2 ([some (.ref 51)], [], (hp M J R c e nL xs D)) =
    some (some (.int (M 51 8)), (hp M J R c e nL xs D)) := rfl
set_option maxRecDepth 40000 in
theorem eX3_gangOf_0 (X : px_X) (M : Nat → Nat → Int32) (J : Nat → Nat → Int64) (R : Nat → Nat → Option Nat) (c e : Nat) (nL : Nat) (xs : Nat → Int32) (D : px_H) (v1 : Int32) : px_run (px_mk (kX3_gangOf X)) 0 ([some (.ref 51), some (.int (v1))], [], (hp M J R c e nL xs D)) =
    cond (decide (v1 < 0))
    (px_run (px_mk (kX3_gangOf X)) 12 ([some (.ref 51), some (.int (v1))], [], (hp M J R c e nL xs D)))
    (cond (decide (v1 < M 51 0))
    (px_run (px_mk (kX3_gangOf X)) 15 ([some (.ref 51), some (.int (v1))], [], (hp M J R c e nL xs D)))
    (px_run (px_mk (kX3_gangOf X)) 12 ([some (.ref 51), some (.int (v1))], [], (hp M J R c e nL xs D)))) := (px_run_eq _ _ _).trans rfl
set_option maxRecDepth 40000 in
theorem eX3_gangOf_12 (X : px_X) (M : Nat → Nat → Int32) (J : Nat → Nat → Int64) (R : Nat → Nat → Option Nat) (c e : Nat) (nL : Nat) (xs : Nat → Int32) (D : px_H) (o0 : Option Value) (o1 : Option Value) : px_run (px_mk (kX3_gangOf X)) 12 ([o0, o1], [], (hp M J R c e nL xs D)) =
    some (some (.int ((-2))), (hp M J R c e nL xs D)) := (px_run_eq _ _ _).trans rfl
set_option maxRecDepth 40000 in
theorem eX3_gangOf_15 (X : px_X) (M : Nat → Nat → Int32) (J : Nat → Nat → Int64) (R : Nat → Nat → Option Nat) (c e : Nat) (nL : Nat) (xs : Nat → Int32) (D : px_H) (v1 : Int32) : px_run (px_mk (kX3_gangOf X)) 15 ([some (.ref 51), some (.int (v1))], [], (hp M J R c e nL xs D)) =
    px_bd (X 35 [.ref 51] (hp M J R c e nL xs D))
    (fun v G1 => px_p (kX3_gangOf X) 15 2 ([some (.ref 51), some (.int (v1))], px_psh v [], G1)) := (px_run_eq _ _ _).trans rfl
set_option maxRecDepth 40000 in
theorem eX3_gangOf_15_2 (X : px_X) (M : Nat → Nat → Int32) (J : Nat → Nat → Int64) (R : Nat → Nat → Option Nat) (c e : Nat) (nL : Nat) (xs : Nat → Int32) (D : px_H) (v1 : Int32) : px_p (kX3_gangOf X) 15 2 ([some (.ref 51), some (.int (v1))], [], (hp M J R c e nL xs D)) =
    cond (px_inb (v1) 9)
    (some (some (.int (((M 57) (Int32.toNatClampNeg (v1))))), (hp M J R c e nL xs D))) none := rfl
set_option maxRecDepth 40000 in
theorem eX3_planIfNew_0 (X : px_X) (M : Nat → Nat → Int32) (J : Nat → Nat → Int64) (R : Nat → Nat → Option Nat) (c e : Nat) (nL : Nat) (xs : Nat → Int32) (D : px_H)  : px_run (px_mk (kX3_planIfNew X)) 0 ([some (.ref 51), none, none], [], (hp M J R c e nL xs D)) =
    cond (decide (M 51 7 = 0))
    (px_run (px_mk (kX3_planIfNew X)) 8 ([some (.ref 51), none, none], [], (hp M J R c e nL xs D)))
    (some (none, (hp M J R c e nL xs D))) := (px_run_eq _ _ _).trans rfl
set_option maxRecDepth 40000 in
theorem eX3_planIfNew_8 (X : px_X) (M : Nat → Nat → Int32) (J : Nat → Nat → Int64) (R : Nat → Nat → Option Nat) (c e : Nat) (nL : Nat) (xs : Nat → Int32) (D : px_H) (o1 : Option Value) (o2 : Option Value) : px_run (px_mk (kX3_planIfNew X)) 8 ([some (.ref 51), o1, o2], [], (hp M J R c e nL xs D)) =
    px_run (px_mk (kX3_planIfNew X)) 19 ([some (.ref 51), some (.int (((1 <<< (M 51 0 &&& 31)) - 1))), some (.int (0))], [], (hp M J R c e nL xs D)) := (px_run_eq _ _ _).trans rfl
set_option maxRecDepth 40000 in
theorem eX3_planIfNew_19 (X : px_X) (M : Nat → Nat → Int32) (J : Nat → Nat → Int64) (R : Nat → Nat → Option Nat) (c e : Nat) (nL : Nat) (xs : Nat → Int32) (D : px_H) (v1 : Int32) (v2 : Int32) : px_run (px_mk (kX3_planIfNew X)) 19 ([some (.ref 51), some (.int (v1)), some (.int (v2))], [], (hp M J R c e nL xs D)) =
    cond (decide (v1 < v2))
    (px_run (px_mk (kX3_planIfNew X)) 46 ([some (.ref 51), some (.int (v1)), some (.int (v2))], [], (hp M J R c e nL xs D)))
    (cond (px_inb (v2) 512)
    (cond (px_inb (v2) 512)
    (px_run (px_mk (kX3_planIfNew X)) 19 ([some (.ref 51), some (.int (v1)), some (.int ((v2 + 1)))], [], (hp M (px_uJ J 56 (vp_updL (J 56) (Int32.toNatClampNeg (v2)) ((Int32.toInt64 ((-4) * ((M 54) (Int32.toNatClampNeg (v2)))))))) R c e nL xs D))) none) none) := (px_run_eq _ _ _).trans rfl
set_option maxRecDepth 40000 in
theorem eX3_planIfNew_46 (X : px_X) (M : Nat → Nat → Int32) (J : Nat → Nat → Int64) (R : Nat → Nat → Option Nat) (c e : Nat) (nL : Nat) (xs : Nat → Int32) (D : px_H) (v1 : Int32) (o2 : Option Value) : px_run (px_mk (kX3_planIfNew X)) 46 ([some (.ref 51), some (.int (v1)), o2], [], (hp M J R c e nL xs D)) =
    px_run (px_mk (kX3_planIfNew X)) 53 ([some (.ref 51), some (.int (v1)), some (.int ((M 51 1 - 1)))], [], (hp M J R c e nL xs D)) := (px_run_eq _ _ _).trans rfl
set_option maxRecDepth 40000 in
theorem eX3_planIfNew_53 (X : px_X) (M : Nat → Nat → Int32) (J : Nat → Nat → Int64) (R : Nat → Nat → Option Nat) (c e : Nat) (nL : Nat) (xs : Nat → Int32) (D : px_H) (v1 : Int32) (v2 : Int32) : px_run (px_mk (kX3_planIfNew X)) 53 ([some (.ref 51), some (.int (v1)), some (.int (v2))], [], (hp M J R c e nL xs D)) =
    cond (decide (v2 < 0))
    (px_run (px_mk (kX3_planIfNew X)) 69 ([some (.ref 51), some (.int (v1)), some (.int (v2))], [], (hp M J R c e nL xs D)))
    (px_bd (X 36 [.ref 51, .int (v2), .int (v1)] (hp M J R c e nL xs D))
    (fun v G1 => px_p (kX3_planIfNew X) 53 6 ([some (.ref 51), some (.int (v1)), some (.int (v2))], px_psh v [], G1))) := (px_run_eq _ _ _).trans rfl
set_option maxRecDepth 40000 in
theorem eX3_planIfNew_69 (X : px_X) (M : Nat → Nat → Int32) (J : Nat → Nat → Int64) (R : Nat → Nat → Option Nat) (c e : Nat) (nL : Nat) (xs : Nat → Int32) (D : px_H) (v1 : Int32) (o2 : Option Value) : px_run (px_mk (kX3_planIfNew X)) 69 ([some (.ref 51), some (.int (v1)), o2], [], (hp M J R c e nL xs D)) =
    cond (px_inb (v1) 512)
    (px_bd (X 37 [.ref 51, .long ((J 56 (Int32.toNatClampNeg (v1))))] (hp M J R c e nL xs D))
    (fun v G1 => px_p (kX3_planIfNew X) 69 6 ([some (.ref 51), some (.int (v1)), none], px_psh v [], G1))) none := (px_run_eq _ _ _).trans rfl
set_option maxRecDepth 40000 in
theorem eX3_planIfNew_53_6 (X : px_X) (M : Nat → Nat → Int32) (J : Nat → Nat → Int64) (R : Nat → Nat → Option Nat) (c e : Nat) (nL : Nat) (xs : Nat → Int32) (D : px_H) (v1 : Int32) (v2 : Int32) : px_p (kX3_planIfNew X) 53 6 ([some (.ref 51), some (.int (v1)), some (.int (v2))], [], (hp M J R c e nL xs D)) =
    px_run (px_mk (kX3_planIfNew X)) 53 ([some (.ref 51), some (.int (v1)), some (.int ((v2 + (-1))))], [], (hp M J R c e nL xs D)) := rfl
set_option maxRecDepth 40000 in
theorem eX3_planIfNew_69_6 (X : px_X) (M : Nat → Nat → Int32) (J : Nat → Nat → Int64) (R : Nat → Nat → Option Nat) (c e : Nat) (nL : Nat) (xs : Nat → Int32) (D : px_H) (v1 : Int32) : px_p (kX3_planIfNew X) 69 6 ([some (.ref 51), some (.int (v1)), none], [], (hp M J R c e nL xs D)) =
    some (none, (hp (px_uR M 51 (upd (M 51) 7 (1))) J R c e nL xs D)) := rfl
set_option maxRecDepth 40000 in
theorem eX3_giveToGang_0 (X : px_X) (M : Nat → Nat → Int32) (J : Nat → Nat → Int64) (R : Nat → Nat → Option Nat) (c e : Nat) (nL : Nat) (xs : Nat → Int32) (D : px_H) (v1 : Int32) (v2 : Int32) : px_run (px_mk (kX3_giveToGang X)) 0 ([some (.ref 51), some (.int (v1)), some (.int (v2)), none, none, none, none, none, none], [], (hp M J R c e nL xs D)) =
    px_run (px_mk (kX3_giveToGang X)) 2 ([some (.ref 51), some (.int (v1)), some (.int (v2)), some (.int (v2)), none, none, none, none, none], [], (hp M J R c e nL xs D)) := (px_run_eq _ _ _).trans rfl
set_option maxRecDepth 40000 in
theorem eX3_giveToGang_2 (X : px_X) (M : Nat → Nat → Int32) (J : Nat → Nat → Int64) (R : Nat → Nat → Option Nat) (c e : Nat) (nL : Nat) (xs : Nat → Int32) (D : px_H) (v1 : Int32) (o2 : Option Value) (v3 : Int32) (o4 : Option Value) (o5 : Option Value) (o6 : Option Value) (o7 : Option Value) (o8 : Option Value) : px_run (px_mk (kX3_giveToGang X)) 2 ([some (.ref 51), some (.int (v1)), o2, some (.int (v3)), o4, o5, o6, o7, o8], [], (hp M J R c e nL xs D)) =
    cond (decide (v3 ≤ 0))
    (px_run (px_mk (kX3_giveToGang X)) 102 ([some (.ref 51), some (.int (v1)), none, some (.int (v3)), none, none, none, none, none], [], (hp M J R c e nL xs D)))
    (cond (px_inb (v3) 512)
    (px_run (px_mk (kX3_giveToGang X)) 17 ([some (.ref 51), some (.int (v1)), none, some (.int (v3)), some (.long ((J 56 (Int32.toNatClampNeg (v3))))), none, some (.int (v3)), none, none], [], (hp M J R c e nL xs D))) none) := (px_run_eq _ _ _).trans rfl
set_option maxRecDepth 40000 in
theorem eX3_giveToGang_102 (X : px_X) (M : Nat → Nat → Int32) (J : Nat → Nat → Int64) (R : Nat → Nat → Option Nat) (c e : Nat) (nL : Nat) (xs : Nat → Int32) (D : px_H) (o0 : Option Value) (o1 : Option Value) (o2 : Option Value) (o3 : Option Value) (o4 : Option Value) (o5 : Option Value) (o6 : Option Value) (o7 : Option Value) (o8 : Option Value) : px_run (px_mk (kX3_giveToGang X)) 102 ([o0, o1, o2, o3, o4, o5, o6, o7, o8], [], (hp M J R c e nL xs D)) =
    some (none, (hp M J R c e nL xs D)) := (px_run_eq _ _ _).trans rfl
set_option maxRecDepth 40000 in
theorem eX3_giveToGang_17 (X : px_X) (M : Nat → Nat → Int32) (J : Nat → Nat → Int64) (R : Nat → Nat → Option Nat) (c e : Nat) (nL : Nat) (xs : Nat → Int32) (D : px_H) (v1 : Int32) (o2 : Option Value) (v3 : Int32) (v4 : Int64) (v6 : Int32) (o7 : Option Value) (o8 : Option Value) : px_run (px_mk (kX3_giveToGang X)) 17 ([some (.ref 51), some (.int (v1)), o2, some (.int (v3)), some (.long (v4)), none, some (.int (v6)), o7, o8], [], (hp M J R c e nL xs D)) =
    cond (decide (v6 ≤ 0))
    (px_run (px_mk (kX3_giveToGang X)) 88 ([some (.ref 51), some (.int (v1)), none, some (.int (v3)), some (.long (v4)), none, some (.int (v6)), none, none], [], (hp M J R c e nL xs D)))
    (cond (px_inb (v6) 512)
    (cond (px_inb (v1) 4)
    (cond (decide (((M 52) (Int32.toNatClampNeg (v1))) < ((M 53) (Int32.toNatClampNeg (v6)))))
    (px_run (px_mk (kX3_giveToGang X)) 77 ([some (.ref 51), some (.int (v1)), none, some (.int (v3)), some (.long (v4)), none, some (.int (v6)), none, none], [], (hp M J R c e nL xs D)))
    (cond (px_inb (v6) 512)
    (cond (px_inb (v6) 512)
    (cond (px_inb ((v3 - v6)) 512)
    (px_run (px_mk (kX3_giveToGang X)) 77 ([some (.ref 51), some (.int (v1)), none, some (.int (v3)), some (.long ((if (((J 55 (Int32.toNatClampNeg (v6))) - (Int32.toInt64 (v1 * ((M 54) (Int32.toNatClampNeg (v6)))))) + (J 56 (Int32.toNatClampNeg ((v3 - v6))))) < v4 then v4 else (((J 55 (Int32.toNatClampNeg (v6))) - (Int32.toInt64 (v1 * ((M 54) (Int32.toNatClampNeg (v6)))))) + (J 56 (Int32.toNatClampNeg ((v3 - v6)))))))), none, some (.int (v6)), some (.long ((((J 55 (Int32.toNatClampNeg (v6))) - (Int32.toInt64 (v1 * ((M 54) (Int32.toNatClampNeg (v6)))))) + (J 56 (Int32.toNatClampNeg ((v3 - v6))))))), none], [], (hp M J R c e nL xs D))) none) none) none)) none) none) := (px_run_eq _ _ _).trans rfl
set_option maxRecDepth 40000 in
theorem eX3_giveToGang_88 (X : px_X) (M : Nat → Nat → Int32) (J : Nat → Nat → Int64) (R : Nat → Nat → Option Nat) (c e : Nat) (nL : Nat) (xs : Nat → Int32) (D : px_H) (v1 : Int32) (o2 : Option Value) (v3 : Int32) (v4 : Int64) (o6 : Option Value) (o7 : Option Value) (o8 : Option Value) : px_run (px_mk (kX3_giveToGang X)) 88 ([some (.ref 51), some (.int (v1)), o2, some (.int (v3)), some (.long (v4)), none, o6, o7, o8], [], (hp M J R c e nL xs D)) =
    cond (px_inb (v3) 512)
    (px_run (px_mk (kX3_giveToGang X)) 2 ([some (.ref 51), some (.int (v1)), none, some (.int ((v3 + (-1)))), some (.long (v4)), none, none, none, none], [], (hp M (px_uJ J 56 (vp_updL (J 56) (Int32.toNatClampNeg (v3)) (v4))) R c e nL xs D))) none := (px_run_eq _ _ _).trans rfl
set_option maxRecDepth 40000 in
theorem eX3_giveToGang_77 (X : px_X) (M : Nat → Nat → Int32) (J : Nat → Nat → Int64) (R : Nat → Nat → Option Nat) (c e : Nat) (nL : Nat) (xs : Nat → Int32) (D : px_H) (v1 : Int32) (o2 : Option Value) (v3 : Int32) (v4 : Int64) (v6 : Int32) (o7 : Option Value) (o8 : Option Value) : px_run (px_mk (kX3_giveToGang X)) 77 ([some (.ref 51), some (.int (v1)), o2, some (.int (v3)), some (.long (v4)), none, some (.int (v6)), o7, o8], [], (hp M J R c e nL xs D)) =
    px_run (px_mk (kX3_giveToGang X)) 17 ([some (.ref 51), some (.int (v1)), none, some (.int (v3)), some (.long (v4)), none, some (.int (((v6 - 1) &&& v3))), none, none], [], (hp M J R c e nL xs D)) := (px_run_eq _ _ _).trans rfl
set_option maxRecDepth 40000 in
theorem eX3_keepPlan_0 (X : px_X) (M : Nat → Nat → Int32) (J : Nat → Nat → Int64) (R : Nat → Nat → Option Nat) (c e : Nat) (nL : Nat) (xs : Nat → Int32) (D : px_H) (v1 : Int64) : px_run (px_mk (kX3_keepPlan X)) 0 ([some (.ref 51), some (.long (v1)), none, none, none, none, none], [], (hp M J R c e nL xs D)) =
    px_run (px_mk (kX3_keepPlan X)) 36 ([some (.ref 51), some (.long (v1)), none, some (.int ((Int64.toInt32 (((Int32.toInt64 (Int64.toInt32 (((v1 + 1953125) - 1) / 1953125))) * 1953125) - v1)))), some (.int (390625)), some (.int (0)), none], [], (hp (px_uR M 51 (upd (M 51) 8 ((Int64.toInt32 (((v1 + 1953125) - 1) / 1953125))))) J R c e nL xs D)) := (px_run_eq _ _ _).trans rfl
set_option maxRecDepth 40000 in
theorem eX3_keepPlan_36 (X : px_X) (M : Nat → Nat → Int32) (J : Nat → Nat → Int64) (R : Nat → Nat → Option Nat) (c e : Nat) (nL : Nat) (xs : Nat → Int32) (D : px_H) (o1 : Option Value) (o2 : Option Value) (v3 : Int32) (v4 : Int32) (v5 : Int32) (o6 : Option Value) : px_run (px_mk (kX3_keepPlan X)) 36 ([some (.ref 51), o1, o2, some (.int (v3)), some (.int (v4)), some (.int (v5)), o6], [], (hp M J R c e nL xs D)) =
    cond (decide (M 51 0 ≤ v5))
    (px_run (px_mk (kX3_keepPlan X)) 89 ([some (.ref 51), none, none, some (.int (v3)), some (.int (v4)), some (.int (v5)), none], [], (hp M J R c e nL xs D)))
    (cond (decide (v4 ≤ 0))
    (px_run (px_mk (kX3_keepPlan X)) 89 ([some (.ref 51), none, none, some (.int (v3)), some (.int (v4)), some (.int (v5)), none], [], (hp M J R c e nL xs D)))
    (cond (!(decide (v4 = 0)))
    (cond (decide (¬ ((v3 / v4) - (v3 / v4) / 5 * 5) = 4))
    (px_run (px_mk (kX3_keepPlan X)) 74 ([some (.ref 51), none, none, some (.int (v3)), some (.int (v4)), some (.int (v5)), some (.int (((v3 / v4) - (v3 / v4) / 5 * 5)))], [.int (v5), .ref 57], (hp M J R c e nL xs D)))
    (px_run (px_mk (kX3_keepPlan X)) 76 ([some (.ref 51), none, none, some (.int (v3)), some (.int (v4)), some (.int (v5)), some (.int (((v3 / v4) - (v3 / v4) / 5 * 5)))], [.int ((-1)), .int (v5), .ref 57], (hp M J R c e nL xs D)))) none)) := (px_run_eq _ _ _).trans rfl
set_option maxRecDepth 40000 in
theorem eX3_keepPlan_89 (X : px_X) (M : Nat → Nat → Int32) (J : Nat → Nat → Int64) (R : Nat → Nat → Option Nat) (c e : Nat) (nL : Nat) (xs : Nat → Int32) (D : px_H) (o0 : Option Value) (o1 : Option Value) (o2 : Option Value) (o3 : Option Value) (o4 : Option Value) (o5 : Option Value) (o6 : Option Value) : px_run (px_mk (kX3_keepPlan X)) 89 ([o0, o1, o2, o3, o4, o5, o6], [], (hp M J R c e nL xs D)) =
    some (none, (hp M J R c e nL xs D)) := (px_run_eq _ _ _).trans rfl
set_option maxRecDepth 40000 in
theorem eX3_keepPlan_74 (X : px_X) (M : Nat → Nat → Int32) (J : Nat → Nat → Int64) (R : Nat → Nat → Option Nat) (c e : Nat) (nL : Nat) (xs : Nat → Int32) (D : px_H) (o1 : Option Value) (o2 : Option Value) (v3 : Int32) (v4 : Int32) (v5 : Int32) (v6 : Int32) (w1 : Int32) : px_run (px_mk (kX3_keepPlan X)) 74 ([some (.ref 51), o1, o2, some (.int (v3)), some (.int (v4)), some (.int (v5)), some (.int (v6))], [.int (w1), .ref 57], (hp M J R c e nL xs D)) =
    px_run (px_mk (kX3_keepPlan X)) 76 ([some (.ref 51), none, none, some (.int (v3)), some (.int (v4)), some (.int (v5)), some (.int (v6))], [.int (v6), .int (w1), .ref 57], (hp M J R c e nL xs D)) := (px_run_eq _ _ _).trans rfl
set_option maxRecDepth 40000 in
theorem eX3_keepPlan_76 (X : px_X) (M : Nat → Nat → Int32) (J : Nat → Nat → Int64) (R : Nat → Nat → Option Nat) (c e : Nat) (nL : Nat) (xs : Nat → Int32) (D : px_H) (o1 : Option Value) (o2 : Option Value) (v3 : Int32) (v4 : Int32) (v5 : Int32) (o6 : Option Value) (w1 : Int32) (w2 : Int32) : px_run (px_mk (kX3_keepPlan X)) 76 ([some (.ref 51), o1, o2, some (.int (v3)), some (.int (v4)), some (.int (v5)), o6], [.int (w2), .int (w1), .ref 57], (hp M J R c e nL xs D)) =
    cond (px_inb (w1) 9)
    (px_run (px_mk (kX3_keepPlan X)) 36 ([some (.ref 51), none, none, some (.int (v3)), some (.int ((v4 / 5))), some (.int ((v5 + 1))), none], [], (hp (px_uR M 57 (upd (M 57) (Int32.toNatClampNeg (w1)) (w2))) J R c e nL xs D))) none := (px_run_eq _ _ _).trans rfl
