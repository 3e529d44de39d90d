/-! block equations over the fixed layout (written by wip/whole/seg.py) -/
set_option maxRecDepth 40000 in
theorem eX1_addDiver_0 (X : px_X) (M : Nat → Nat → Int32) (J : Nat → Nat → Int64) (R : Nat → Nat → Option Nat) (c e : Nat) (nL : Nat) (xs : Nat → Int32) (D : px_H)  : px_run (px_mk (kX1_addDiver X)) 0 ([some (.ref 32)], [], (hp M J R c e nL xs D)) =
    cond (decide (M 32 0 < 6))
    (px_run (px_mk (kX1_addDiver X)) 12 ([some (.ref 32)], [], (hp M J R c e nL xs D)))
    (some (some (.int ((-4))), (hp M J R c e nL xs D))) := (px_run_eq _ _ _).trans rfl
set_option maxRecDepth 40000 in
theorem eX1_addDiver_12 (X : px_X) (M : Nat → Nat → Int32) (J : Nat → Nat → Int64) (R : Nat → Nat → Option Nat) (c e : Nat) (nL : Nat) (xs : Nat → Int32) (D : px_H)  : px_run (px_mk (kX1_addDiver X)) 12 ([some (.ref 32)], [], (hp M J R c e nL xs D)) =
    some (some (.int (((M 32 0 + 1) - 1))), (hp (px_uR M 32 (upd (M 32) 0 ((M 32 0 + 1)))) J R c e nL xs D)) := (px_run_eq _ _ _).trans rfl
set_option maxRecDepth 40000 in
theorem eX1_hasDiver_0 (X : px_X) (M : Nat → Nat → Int32) (J : Nat → Nat → Int64) (R : Nat → Nat → Option Nat) (c e : Nat) (nL : Nat) (xs : Nat → Int32) (D : px_H) (v1 : Int32) : px_run (px_mk (kX1_hasDiver X)) 0 ([some (.ref 32), some (.int (v1))], [], (hp M J R c e nL xs D)) =
    cond (decide (v1 < 0))
    (px_run (px_mk (kX1_hasDiver X)) 16 ([some (.ref 32), some (.int (v1))], [], (hp M J R c e nL xs D)))
    (cond (decide (M 32 0 ≤ v1))
    (px_run (px_mk (kX1_hasDiver X)) 16 ([some (.ref 32), some (.int (v1))], [], (hp M J R c e nL xs D)))
    (px_run (px_mk (kX1_hasDiver X)) 17 ([some (.ref 32), some (.int (v1))], [.int (1)], (hp M J R c e nL xs D)))) := (px_run_eq _ _ _).trans rfl
set_option maxRecDepth 40000 in
theorem eX1_hasDiver_16 (X : px_X) (M : Nat → Nat → Int32) (J : Nat → Nat → Int64) (R : Nat → Nat → Option Nat) (c e : Nat) (nL : Nat) (xs : Nat → Int32) (D : px_H) (o0 : Option Value) (o1 : Option Value) : px_run (px_mk (kX1_hasDiver X)) 16 ([o0, o1], [], (hp M J R c e nL xs D)) =
    px_run (px_mk (kX1_hasDiver X)) 17 ([none, none], [.int (0)], (hp M J R c e nL xs D)) := (px_run_eq _ _ _).trans rfl
set_option maxRecDepth 40000 in
theorem eX1_hasDiver_17 (X : px_X) (M : Nat → Nat → Int32) (J : Nat → Nat → Int64) (R : Nat → Nat → Option Nat) (c e : Nat) (nL : Nat) (xs : Nat → Int32) (D : px_H) (o0 : Option Value) (o1 : Option Value) (w0 : Int32) : px_run (px_mk (kX1_hasDiver X)) 17 ([o0, o1], [.int (w0)], (hp M J R c e nL xs D)) =
    cond (decide (w0 = 0) || decide (w0 = 1)) (some (some (.int (w0)), (hp M J R c e nL xs D))) none := (px_run_eq _ _ _).trans rfl
set_option maxRecDepth 40000 in
theorem eX1_putRow_0 (X : px_X) (M : Nat → Nat → Int32) (J : Nat → Nat → Int64) (R : Nat → Nat → Option Nat) (c e : Nat) (nL : Nat) (xs : Nat → Int32) (D : px_H) (v1 : Int32) (v2 : Int32) (v3 : Int32) : px_run (px_mk (kX1_putRow X)) 0 ([some (.ref 32), some (.int (v1)), some (.int (v2)), some (.int (v3)), none], [], (hp M J R c e nL xs D)) =
    cond (decide (v1 < 1))
    (px_run (px_mk (kX1_putRow X)) 35 ([some (.ref 32), some (.int (v1)), some (.int (v2)), some (.int (v3)), none], [], (hp M J R c e nL xs D)))
    (cond (decide (90 < v1))
    (px_run (px_mk (kX1_putRow X)) 35 ([some (.ref 32), some (.int (v1)), some (.int (v2)), some (.int (v3)), none], [], (hp M J R c e nL xs D)))
    (cond (decide (v2 < 1))
    (px_run (px_mk (kX1_putRow X)) 35 ([some (.ref 32), some (.int (v1)), some (.int (v2)), some (.int (v3)), none], [], (hp M J R c e nL xs D)))
    (cond (decide (200 < v2))
    (px_run (px_mk (kX1_putRow X)) 35 ([some (.ref 32), some (.int (v1)), some (.int (v2)), some (.int (v3)), none], [], (hp M J R c e nL xs D)))
    (cond (decide (v3 < 1))
    (px_run (px_mk (kX1_putRow X)) 35 ([some (.ref 32), some (.int (v1)), some (.int (v2)), some (.int (v3)), none], [], (hp M J R c e nL xs D)))
    (cond (decide (v3 ≤ 1440))
    (px_run (px_mk (kX1_putRow X)) 38 ([some (.ref 32), some (.int (v1)), some (.int (v2)), some (.int (v3)), none], [], (hp M J R c e nL xs D)))
    (px_run (px_mk (kX1_putRow X)) 35 ([some (.ref 32), some (.int (v1)), some (.int (v2)), some (.int (v3)), none], [], (hp M J R c e nL xs D)))))))) := (px_run_eq _ _ _).trans rfl
set_option maxRecDepth 40000 in
theorem eX1_putRow_35 (X : px_X) (M : Nat → Nat → Int32) (J : Nat → Nat → Int64) (R : Nat → Nat → Option Nat) (c e : Nat) (nL : Nat) (xs : Nat → Int32) (D : px_H) (o0 : Option Value) (o1 : Option Value) (o2 : Option Value) (o3 : Option Value) (o4 : Option Value) : px_run (px_mk (kX1_putRow X)) 35 ([o0, o1, o2, o3, o4], [], (hp M J R c e nL xs D)) =
    some (some (.int ((-2))), (hp M J R c e nL xs D)) := (px_run_eq _ _ _).trans rfl
set_option maxRecDepth 40000 in
theorem eX1_putRow_38 (X : px_X) (M : Nat → Nat → Int32) (J : Nat → Nat → Int64) (R : Nat → Nat → Option Nat) (c e : Nat) (nL : Nat) (xs : Nat → Int32) (D : px_H) (v1 : Int32) (v2 : Int32) (v3 : Int32) (o4 : Option Value) : px_run (px_mk (kX1_putRow X)) 38 ([some (.ref 32), some (.int (v1)), some (.int (v2)), some (.int (v3)), o4], [], (hp M J R c e nL xs D)) =
    px_bd (X 8 [.ref 32, .int (v1)] (hp M J R c e nL xs D))
    (fun v G1 => px_p (kX1_putRow X) 38 3 ([some (.ref 32), some (.int (v1)), some (.int (v2)), some (.int (v3)), none], px_psh v [], G1)) := (px_run_eq _ _ _).trans rfl
set_option maxRecDepth 40000 in
theorem eX1_putRow_38_3 (X : px_X) (M : Nat → Nat → Int32) (J : Nat → Nat → Int64) (R : Nat → Nat → Option Nat) (c e : Nat) (nL : Nat) (xs : Nat → Int32) (D : px_H) (v1 : Int32) (v2 : Int32) (v3 : Int32) (w0 : Int32) : px_p (kX1_putRow X) 38 3 ([some (.ref 32), some (.int (v1)), some (.int (v2)), some (.int (v3)), none], [.int (w0)], (hp M J R c e nL xs D)) =
    cond (decide (w0 = M 32 1))
    (px_run (px_mk (kX1_putRow X)) 65 ([some (.ref 32), some (.int (v1)), some (.int (v2)), some (.int (v3)), some (.int (w0))], [], (hp M J R c e nL xs D)))
    (cond (px_inb (w0) 8)
    (cond (decide (((M 33) (Int32.toNatClampNeg (w0))) = v1))
    (px_run (px_mk (kX1_putRow X)) 83 ([some (.ref 32), some (.int (v1)), some (.int (v2)), some (.int (v3)), some (.int (w0))], [], (hp M J R c e nL xs D)))
    (px_run (px_mk (kX1_putRow X)) 65 ([some (.ref 32), some (.int (v1)), some (.int (v2)), some (.int (v3)), some (.int (w0))], [], (hp M J R c e nL xs D)))) none) := rfl
set_option maxRecDepth 40000 in
theorem eX1_putRow_65 (X : px_X) (M : Nat → Nat → Int32) (J : Nat → Nat → Int64) (R : Nat → Nat → Option Nat) (c e : Nat) (nL : Nat) (xs : Nat → Int32) (D : px_H) (v1 : Int32) (v2 : Int32) (v3 : Int32) (v4 : Int32) : px_run (px_mk (kX1_putRow X)) 65 ([some (.ref 32), some (.int (v1)), some (.int (v2)), some (.int (v3)), some (.int (v4))], [], (hp M J R c e nL xs D)) =
    cond (decide (M 32 1 < 8))
    (px_run (px_mk (kX1_putRow X)) 77 ([some (.ref 32), some (.int (v1)), some (.int (v2)), some (.int (v3)), some (.int (v4))], [], (hp M J R c e nL xs D)))
    (some (some (.int ((-4))), (hp M J R c e nL xs D))) := (px_run_eq _ _ _).trans rfl
set_option maxRecDepth 40000 in
theorem eX1_putRow_83 (X : px_X) (M : Nat → Nat → Int32) (J : Nat → Nat → Int64) (R : Nat → Nat → Option Nat) (c e : Nat) (nL : Nat) (xs : Nat → Int32) (D : px_H) (v1 : Int32) (v2 : Int32) (v3 : Int32) (v4 : Int32) : px_run (px_mk (kX1_putRow X)) 83 ([some (.ref 32), some (.int (v1)), some (.int (v2)), some (.int (v3)), some (.int (v4))], [], (hp M J R c e nL xs D)) =
    cond (px_inb (v4) 8)
    (cond (px_inb (v4) 8)
    (cond (px_inb (v4) 8)
    (some (some (.int (M 32 1)), (hp (px_uR (px_uR (px_uR M 33 (upd (M 33) (Int32.toNatClampNeg (v4)) (v1))) 34 (upd (M 34) (Int32.toNatClampNeg (v4)) (v2))) 35 (upd (M 35) (Int32.toNatClampNeg (v4)) (v3))) J R c e nL xs D))) none) none) none := (px_run_eq _ _ _).trans rfl
set_option maxRecDepth 40000 in
theorem eX1_putRow_77_3 (X : px_X) (st : px_S) : px_p (kX1_putRow X) 77 3 st = px_run (px_mk (kX1_putRow X)) 83 st := rfl
set_option maxRecDepth 40000 in
theorem eX1_putRow_77 (X : px_X) (M : Nat → Nat → Int32) (J : Nat → Nat → Int64) (R : Nat → Nat → Option Nat) (c e : Nat) (nL : Nat) (xs : Nat → Int32) (D : px_H) (v1 : Int32) (v2 : Int32) (v3 : Int32) (v4 : Int32) : px_run (px_mk (kX1_putRow X)) 77 ([some (.ref 32), some (.int (v1)), some (.int (v2)), some (.int (v3)), some (.int (v4))], [], (hp M J R c e nL xs D)) =
    px_bd (X 9 [.ref 32, .int (v4)] (hp M J R c e nL xs D))
    (fun v G1 => px_p (kX1_putRow X) 77 3 ([some (.ref 32), some (.int (v1)), some (.int (v2)), some (.int (v3)), some (.int (v4))], px_psh v [], G1)) := (px_run_eq _ _ _).trans rfl
set_option maxRecDepth 40000 in
theorem eX1_firstRowFrom_0 (X : px_X) (M : Nat → Nat → Int32) (J : Nat → Nat → Int64) (R : Nat → Nat → Option Nat) (c e : Nat) (nL : Nat) (xs : Nat → Int32) (D : px_H) (v1 : Int32) : px_run (px_mk (kX1_firstRowFrom X)) 0 ([some (.ref 32), some (.int (v1)), none], [], (hp M J R c e nL xs D)) =
    px_run (px_mk (kX1_firstRowFrom X)) 2 ([some (.ref 32), some (.int (v1)), some (.int (0))], [], (hp M J R c e nL xs D)) := (px_run_eq _ _ _).trans rfl
set_option maxRecDepth 40000 in
theorem eX1_firstRowFrom_2 (X : px_X) (M : Nat → Nat → Int32) (J : Nat → Nat → Int64) (R : Nat → Nat → Option Nat) (c e : Nat) (nL : Nat) (xs : Nat → Int32) (D : px_H) (v1 : Int32) (v2 : Int32) : px_run (px_mk (kX1_firstRowFrom X)) 2 ([some (.ref 32), some (.int (v1)), some (.int (v2))], [], (hp M J R c e nL xs D)) =
    cond (decide (M 32 1 ≤ v2))
    (px_run (px_mk (kX1_firstRowFrom X)) 26 ([some (.ref 32), some (.int (v1)), some (.int (v2))], [], (hp M J R c e nL xs D)))
    (cond (px_inb (v2) 8)
    (cond (decide (v1 ≤ ((M 33) (Int32.toNatClampNeg (v2)))))
    (px_run (px_mk (kX1_firstRowFrom X)) 26 ([some (.ref 32), some (.int (v1)), some (.int (v2))], [], (hp M J R c e nL xs D)))
    (px_run (px_mk (kX1_firstRowFrom X)) 2 ([some (.ref 32), some (.int (v1)), some (.int ((v2 + 1)))], [], (hp M J R c e nL xs D)))) none) := (px_run_eq _ _ _).trans rfl
set_option maxRecDepth 40000 in
theorem eX1_firstRowFrom_26 (X : px_X) (M : Nat → Nat → Int32) (J : Nat → Nat → Int64) (R : Nat → Nat → Option Nat) (c e : Nat) (nL : Nat) (xs : Nat → Int32) (D : px_H) (o0 : Option Value) (o1 : Option Value) (v2 : Int32) : px_run (px_mk (kX1_firstRowFrom X)) 26 ([o0, o1, some (.int (v2))], [], (hp M J R c e nL xs D)) =
    some (some (.int (v2)), (hp M J R c e nL xs D)) := (px_run_eq _ _ _).trans rfl
set_option maxRecDepth 40000 in
theorem eX1_openRow_0 (X : px_X) (M : Nat → Nat → Int32) (J : Nat → Nat → Int64) (R : Nat → Nat → Option Nat) (c e : Nat) (nL : Nat) (xs : Nat → Int32) (D : px_H) (v1 : Int32) : px_run (px_mk (kX1_openRow X)) 0 ([some (.ref 32), some (.int (v1)), none], [], (hp M J R c e nL xs D)) =
    px_run (px_mk (kX1_openRow X)) 5 ([some (.ref 32), some (.int (v1)), some (.int (M 32 1))], [], (hp M J R c e nL xs D)) := (px_run_eq _ _ _).trans rfl
set_option maxRecDepth 40000 in
theorem eX1_openRow_5 (X : px_X) (M : Nat → Nat → Int32) (J : Nat → Nat → Int64) (R : Nat → Nat → Option Nat) (c e : Nat) (nL : Nat) (xs : Nat → Int32) (D : px_H) (v1 : Int32) (v2 : Int32) : px_run (px_mk (kX1_openRow X)) 5 ([some (.ref 32), some (.int (v1)), some (.int (v2))], [], (hp M J R c e nL xs D)) =
    cond (decide (v2 ≤ v1))
    (px_run (px_mk (kX1_openRow X)) 58 ([some (.ref 32), some (.int (v1)), some (.int (v2))], [], (hp M J R c e nL xs D)))
    (cond (px_inb ((v2 - 1)) 8)
    (cond (px_inb (v2) 8)
    (cond (px_inb ((v2 - 1)) 8)
    (cond (px_inb (v2) 8)
    (cond (px_inb ((v2 - 1)) 8)
    (cond (px_inb (v2) 8)
    (px_run (px_mk (kX1_openRow X)) 5 ([some (.ref 32), some (.int (v1)), some (.int ((v2 + (-1))))], [], (hp (px_uR (px_uR (px_uR M 33 (upd (M 33) (Int32.toNatClampNeg (v2)) (((M 33) (Int32.toNatClampNeg ((v2 - 1))))))) 34 (upd (M 34) (Int32.toNatClampNeg (v2)) (((M 34) (Int32.toNatClampNeg ((v2 - 1))))))) 35 (upd (M 35) (Int32.toNatClampNeg (v2)) (((M 35) (Int32.toNatClampNeg ((v2 - 1))))))) J R c e nL xs D))) none) none) none) none) none) none) := (px_run_eq _ _ _).trans rfl
set_option maxRecDepth 40000 in
theorem eX1_openRow_58 (X : px_X) (M : Nat → Nat → Int32) (J : Nat → Nat → Int64) (R : Nat → Nat → Option Nat) (c e : Nat) (nL : Nat) (xs : Nat → Int32) (D : px_H) (o1 : Option Value) (o2 : Option Value) : px_run (px_mk (kX1_openRow X)) 58 ([some (.ref 32), o1, o2], [], (hp M J R c e nL xs D)) =
    some (none, (hp (px_uR M 32 (upd (M 32) 1 ((M 32 1 + 1)))) J R c e nL xs D)) := (px_run_eq _ _ _).trans rfl
set_option maxRecDepth 40000 in
theorem eX1_restAfter_0 (X : px_X) (M : Nat → Nat → Int32) (J : Nat → Nat → Int64) (R : Nat → Nat → Option Nat) (c e : Nat) (nL : Nat) (xs : Nat → Int32) (D : px_H) (v1 : Int32) : px_run (px_mk (kX1_restAfter X)) 0 ([some (.ref 32), some (.int (v1)), none], [], (hp M J R c e nL xs D)) =
    px_bd (X 8 [.ref 32, .int (v1)] (hp M J R c e nL xs D))
    (fun v G1 => px_p (kX1_restAfter X) 0 3 ([some (.ref 32), some (.int (v1)), none], px_psh v [], G1)) := (px_run_eq _ _ _).trans rfl
set_option maxRecDepth 40000 in
theorem eX1_restAfter_0_3 (X : px_X) (M : Nat → Nat → Int32) (J : Nat → Nat → Int64) (R : Nat → Nat → Option Nat) (c e : Nat) (nL : Nat) (xs : Nat → Int32) (D : px_H) (v1 : Int32) (w0 : Int32) : px_p (kX1_restAfter X) 0 3 ([some (.ref 32), some (.int (v1)), none], [.int (w0)], (hp M J R c e nL xs D)) =
    cond (decide (M 32 1 ≤ w0))
    (px_run (px_mk (kX1_restAfter X)) 23 ([some (.ref 32), some (.int (v1)), some (.int (w0))], [], (hp M J R c e nL xs D)))
    (cond (px_inb (w0) 8)
    (px_run (px_mk (kX1_restAfter X)) 24 ([some (.ref 32), some (.int (v1)), some (.int (w0))], [.int (((M 35) (Int32.toNatClampNeg (w0))))], (hp M J R c e nL xs D))) none) := rfl
set_option maxRecDepth 40000 in
theorem eX1_restAfter_23 (X : px_X) (M : Nat → Nat → Int32) (J : Nat → Nat → Int64) (R : Nat → Nat → Option Nat) (c e : Nat) (nL : Nat) (xs : Nat → Int32) (D : px_H) (o0 : Option Value) (o1 : Option Value) (o2 : Option Value) : px_run (px_mk (kX1_restAfter X)) 23 ([o0, o1, o2], [], (hp M J R c e nL xs D)) =
    px_run (px_mk (kX1_restAfter X)) 24 ([none, none, none], [.int (0)], (hp M J R c e nL xs D)) := (px_run_eq _ _ _).trans rfl
set_option maxRecDepth 40000 in
theorem eX1_restAfter_24 (X : px_X) (M : Nat → Nat → Int32) (J : Nat → Nat → Int64) (R : Nat → Nat → Option Nat) (c e : Nat) (nL : Nat) (xs : Nat → Int32) (D : px_H) (o0 : Option Value) (o1 : Option Value) (o2 : Option Value) (w0 : Int32) : px_run (px_mk (kX1_restAfter X)) 24 ([o0, o1, o2], [.int (w0)], (hp M J R c e nL xs D)) =
    some (some (.int (w0)), (hp M J R c e nL xs D)) := (px_run_eq _ _ _).trans rfl
set_option maxRecDepth 40000 in
theorem eX1_canBeAsked_0 (X : px_X) (M : Nat → Nat → Int32) (J : Nat → Nat → Int64) (R : Nat → Nat → Option Nat) (c e : Nat) (nL : Nat) (xs : Nat → Int32) (D : px_H) (v1 : Int32) (v2 : Int32) (v3 : Int32) (v4 : Int32) (v5 : Int32) : px_run (px_mk (kX1_canBeAsked X)) 0 ([some (.ref 32), some (.int (v1)), some (.int (v2)), some (.int (v3)), some (.int (v4)), some (.int (v5))], [], (hp M J R c e nL xs D)) =
    px_bd (X 6 [.ref 32, .int (v1)] (hp M J R c e nL xs D))
    (fun v G1 => px_p (kX1_canBeAsked X) 0 3 ([some (.ref 32), some (.int (v1)), some (.int (v2)), some (.int (v3)), some (.int (v4)), some (.int (v5))], px_psh v [], G1)) := (px_run_eq _ _ _).trans rfl
set_option maxRecDepth 40000 in
theorem eX1_canBeAsked_0_3 (X : px_X) (M : Nat → Nat → Int32) (J : Nat → Nat → Int64) (R : Nat → Nat → Option Nat) (c e : Nat) (nL : Nat) (xs : Nat → Int32) (D : px_H) (v1 : Int32) (v2 : Int32) (v3 : Int32) (v4 : Int32) (v5 : Int32) (w0 : Int32) : px_p (kX1_canBeAsked X) 0 3 ([some (.ref 32), some (.int (v1)), some (.int (v2)), some (.int (v3)), some (.int (v4)), some (.int (v5))], [.int (w0)], (hp M J R c e nL xs D)) =
    cond (decide (w0 = 0))
    (px_run (px_mk (kX1_canBeAsked X)) 31 ([some (.ref 32), some (.int (v1)), some (.int (v2)), some (.int (v3)), some (.int (v4)), some (.int (v5))], [], (hp M J R c e nL xs D)))
    (px_bd (X 6 [.ref 32, .int (v2)] (hp M J R c e nL xs D))
    (fun v G1 => px_p (kX1_canBeAsked X) 0 7 ([some (.ref 32), some (.int (v1)), some (.int (v2)), some (.int (v3)), some (.int (v4)), some (.int (v5))], px_psh v [], G1))) := rfl
set_option maxRecDepth 40000 in
theorem eX1_canBeAsked_31 (X : px_X) (M : Nat → Nat → Int32) (J : Nat → Nat → Int64) (R : Nat → Nat → Option Nat) (c e : Nat) (nL : Nat) (xs : Nat → Int32) (D : px_H) (o0 : Option Value) (o1 : Option Value) (o2 : Option Value) (o3 : Option Value) (o4 : Option Value) (o5 : Option Value) : px_run (px_mk (kX1_canBeAsked X)) 31 ([o0, o1, o2, o3, o4, o5], [], (hp M J R c e nL xs D)) =
    some (some (.int (0)), (hp M J R c e nL xs D)) := (px_run_eq _ _ _).trans rfl
set_option maxRecDepth 40000 in
theorem eX1_canBeAsked_0_7 (X : px_X) (M : Nat → Nat → Int32) (J : Nat → Nat → Int64) (R : Nat → Nat → Option Nat) (c e : Nat) (nL : Nat) (xs : Nat → Int32) (D : px_H) (v1 : Int32) (v2 : Int32) (v3 : Int32) (v4 : Int32) (v5 : Int32) (w0 : Int32) : px_p (kX1_canBeAsked X) 0 7 ([some (.ref 32), some (.int (v1)), some (.int (v2)), some (.int (v3)), some (.int (v4)), some (.int (v5))], [.int (w0)], (hp M J R c e nL xs D)) =
    cond (decide (w0 = 0))
    (px_run (px_mk (kX1_canBeAsked X)) 31 ([some (.ref 32), some (.int (v1)), some (.int (v2)), some (.int (v3)), some (.int (v4)), some (.int (v5))], [], (hp M J R c e nL xs D)))
    (cond (decide (v1 = v2))
    (px_run (px_mk (kX1_canBeAsked X)) 31 ([some (.ref 32), some (.int (v1)), some (.int (v2)), some (.int (v3)), some (.int (v4)), some (.int (v5))], [], (hp M J R c e nL xs D)))
    (cond (decide (v3 < 0))
    (px_run (px_mk (kX1_canBeAsked X)) 31 ([some (.ref 32), some (.int (v1)), some (.int (v2)), some (.int (v3)), some (.int (v4)), some (.int (v5))], [], (hp M J R c e nL xs D)))
    (cond (decide (v3 < 1440000))
    (px_run (px_mk (kX1_canBeAsked X)) 33 ([some (.ref 32), some (.int (v1)), some (.int (v2)), some (.int (v3)), some (.int (v4)), some (.int (v5))], [], (hp M J R c e nL xs D)))
    (px_run (px_mk (kX1_canBeAsked X)) 31 ([some (.ref 32), some (.int (v1)), some (.int (v2)), some (.int (v3)), some (.int (v4)), some (.int (v5))], [], (hp M J R c e nL xs D)))))) := rfl
set_option maxRecDepth 40000 in
theorem eX1_canBeAsked_33 (X : px_X) (M : Nat → Nat → Int32) (J : Nat → Nat → Int64) (R : Nat → Nat → Option Nat) (c e : Nat) (nL : Nat) (xs : Nat → Int32) (D : px_H) (o0 : Option Value) (o1 : Option Value) (o2 : Option Value) (o3 : Option Value) (v4 : Int32) (v5 : Int32) : px_run (px_mk (kX1_canBeAsked X)) 33 ([o0, o1, o2, o3, some (.int (v4)), some (.int (v5))], [], (hp M J R c e nL xs D)) =
    cond (decide (v4 < 1))
    (px_run (px_mk (kX1_canBeAsked X)) 64 ([none, none, none, none, some (.int (v4)), some (.int (v5))], [], (hp M J R c e nL xs D)))
    (cond (decide (90 < v4))
    (px_run (px_mk (kX1_canBeAsked X)) 64 ([none, none, none, none, some (.int (v4)), some (.int (v5))], [], (hp M J R c e nL xs D)))
    (cond (decide (v5 < 1))
    (px_run (px_mk (kX1_canBeAsked X)) 64 ([none, none, none, none, some (.int (v4)), some (.int (v5))], [], (hp M J R c e nL xs D)))
    (cond (decide (200 < v5))
    (px_run (px_mk (kX1_canBeAsked X)) 64 ([none, none, none, none, some (.int (v4)), some (.int (v5))], [], (hp M J R c e nL xs D)))
    (px_run (px_mk (kX1_canBeAsked X)) 65 ([none, none, none, none, some (.int (v4)), some (.int (v5))], [.int (1)], (hp M J R c e nL xs D)))))) := (px_run_eq _ _ _).trans rfl
set_option maxRecDepth 40000 in
theorem eX1_canBeAsked_64 (X : px_X) (M : Nat → Nat → Int32) (J : Nat → Nat → Int64) (R : Nat → Nat → Option Nat) (c e : Nat) (nL : Nat) (xs : Nat → Int32) (D : px_H) (o0 : Option Value) (o1 : Option Value) (o2 : Option Value) (o3 : Option Value) (o4 : Option Value) (o5 : Option Value) : px_run (px_mk (kX1_canBeAsked X)) 64 ([o0, o1, o2, o3, o4, o5], [], (hp M J R c e nL xs D)) =
    px_run (px_mk (kX1_canBeAsked X)) 65 ([none, none, none, none, none, none], [.int (0)], (hp M J R c e nL xs D)) := (px_run_eq _ _ _).trans rfl
set_option maxRecDepth 40000 in
theorem eX1_canBeAsked_65 (X : px_X) (M : Nat → Nat → Int32) (J : Nat → Nat → Int64) (R : Nat → Nat → Option Nat) (c e : Nat) (nL : Nat) (xs : Nat → Int32) (D : px_H) (o0 : Option Value) (o1 : Option Value) (o2 : Option Value) (o3 : Option Value) (o4 : Option Value) (o5 : Option Value) (w0 : Int32) : px_run (px_mk (kX1_canBeAsked X)) 65 ([o0, o1, o2, o3, o4, o5], [.int (w0)], (hp M J R c e nL xs D)) =
    cond (decide (w0 = 0) || decide (w0 = 1)) (some (some (.int (w0)), (hp M J R c e nL xs D))) none := (px_run_eq _ _ _).trans rfl
set_option maxRecDepth 40000 in
theorem eX1_refusal_0 (X : px_X) (M : Nat → Nat → Int32) (J : Nat → Nat → Int64) (R : Nat → Nat → Option Nat) (c e : Nat) (nL : Nat) (xs : Nat → Int32) (D : px_H) (v1 : Int32) (v2 : Int32) (v3 : Int32) (v4 : Int32) (v5 : Int32) : px_run (px_mk (kX1_refusal X)) 0 ([some (.ref 32), some (.int (v1)), some (.int (v2)), some (.int (v3)), some (.int (v4)), some (.int (v5)), none], [], (hp M J R c e nL xs D)) =
    px_bd (X 13 [.ref 32, .int (v4), .int (v5)] (hp M J R c e nL xs D))
    (fun v G1 => px_p (kX1_refusal X) 0 4 ([some (.ref 32), some (.int (v1)), some (.int (v2)), some (.int (v3)), some (.int (v4)), some (.int (v5)), none], px_psh v [], G1)) := (px_run_eq _ _ _).trans rfl
set_option maxRecDepth 40000 in
theorem eX1_refusal_0_4 (X : px_X) (M : Nat → Nat → Int32) (J : Nat → Nat → Int64) (R : Nat → Nat → Option Nat) (c e : Nat) (nL : Nat) (xs : Nat → Int32) (D : px_H) (v1 : Int32) (v2 : Int32) (v3 : Int32) (v4 : Int32) (v5 : Int32) (w0 : Int32) : px_p (kX1_refusal X) 0 4 ([some (.ref 32), some (.int (v1)), some (.int (v2)), some (.int (v3)), some (.int (v4)), some (.int (v5)), none], [.int (w0)], (hp M J R c e nL xs D)) =
    cond (decide (w0 = 0))
    (px_run (px_mk (kX1_refusal X)) 20 ([some (.ref 32), some (.int (v1)), some (.int (v2)), some (.int (v3)), some (.int (v4)), some (.int (v5)), some (.int (w0))], [], (hp M J R c e nL xs D)))
    (px_run (px_mk (kX1_refusal X)) 35 ([some (.ref 32), some (.int (v1)), some (.int (v2)), some (.int (v3)), some (.int (v4)), some (.int (v5)), some (.int (w0))], [.int (w0)], (hp M J R c e nL xs D))) := rfl
set_option maxRecDepth 40000 in
theorem eX1_refusal_20 (X : px_X) (M : Nat → Nat → Int32) (J : Nat → Nat → Int64) (R : Nat → Nat → Option Nat) (c e : Nat) (nL : Nat) (xs : Nat → Int32) (D : px_H) (v1 : Int32) (v2 : Int32) (v3 : Int32) (v4 : Int32) (v5 : Int32) (o6 : Option Value) : px_run (px_mk (kX1_refusal X)) 20 ([some (.ref 32), some (.int (v1)), some (.int (v2)), some (.int (v3)), some (.int (v4)), some (.int (v5)), o6], [], (hp M J R c e nL xs D)) =
    px_bd (X 10 [.ref 32, .int (v4)] (hp M J R c e nL xs D))
    (fun v G1 => px_p (kX1_refusal X) 20 8 ([some (.ref 32), some (.int (v1)), some (.int (v2)), some (.int (v3)), some (.int (v4)), some (.int (v5)), none], px_psh v [.int (v5), .int (v3), .int (v2), .int (v1), .ref 32], G1)) := (px_run_eq _ _ _).trans rfl
set_option maxRecDepth 40000 in
theorem eX1_refusal_35 (X : px_X) (M : Nat → Nat → Int32) (J : Nat → Nat → Int64) (R : Nat → Nat → Option Nat) (c e : Nat) (nL : Nat) (xs : Nat → Int32) (D : px_H) (o0 : Option Value) (o1 : Option Value) (o2 : Option Value) (o3 : Option Value) (o4 : Option Value) (o5 : Option Value) (o6 : Option Value) (w0 : Int32) : px_run (px_mk (kX1_refusal X)) 35 ([o0, o1, o2, o3, o4, o5, o6], [.int (w0)], (hp M J R c e nL xs D)) =
    some (some (.int (w0)), (hp M J R c e nL xs D)) := (px_run_eq _ _ _).trans rfl
set_option maxRecDepth 40000 in
theorem eX1_refusal_20_9 (X : px_X) (st : px_S) : px_p (kX1_refusal X) 20 9 st = px_run (px_mk (kX1_refusal X)) 35 st := rfl
set_option maxRecDepth 40000 in
theorem eX1_refusal_20_8 (X : px_X) (M : Nat → Nat → Int32) (J : Nat → Nat → Int64) (R : Nat → Nat → Option Nat) (c e : Nat) (nL : Nat) (xs : Nat → Int32) (D : px_H) (v1 : Int32) (v2 : Int32) (v3 : Int32) (v4 : Int32) (v5 : Int32) (w1 : Int32) (w2 : Int32) (w3 : Int32) (w4 : Int32) (w5 : Int32) : px_p (kX1_refusal X) 20 8 ([some (.ref 32), some (.int (v1)), some (.int (v2)), some (.int (v3)), some (.int (v4)), some (.int (v5)), none], [.int (w5), .int (w4), .int (w3), .int (w2), .int (w1), .ref 32], (hp M J R c e nL xs D)) =
    px_bd (X 14 [.ref 32, .int (w1), .int (w2), .int (w3), .int (w4), .int (w5)] (hp M J R c e nL xs D))
    (fun v G1 => px_p (kX1_refusal X) 20 9 ([some (.ref 32), some (.int (v1)), some (.int (v2)), some (.int (v3)), some (.int (v4)), some (.int (v5)), none], px_psh v [], G1)) := rfl
set_option maxRecDepth 40000 in
theorem eX1_tableRefusal_0 (X : px_X) (M : Nat → Nat → Int32) (J : Nat → Nat → Int64) (R : Nat → Nat → Option Nat) (c e : Nat) (nL : Nat) (xs : Nat → Int32) (D : px_H) (v1 : Int32) (v2 : Int32) : px_run (px_mk (kX1_tableRefusal X)) 0 ([some (.ref 32), some (.int (v1)), some (.int (v2)), none], [], (hp M J R c e nL xs D)) =
    px_bd (X 8 [.ref 32, .int (v1)] (hp M J R c e nL xs D))
    (fun v G1 => px_p (kX1_tableRefusal X) 0 3 ([some (.ref 32), some (.int (v1)), some (.int (v2)), none], px_psh v [], G1)) := (px_run_eq _ _ _).trans rfl
set_option maxRecDepth 40000 in
theorem eX1_tableRefusal_0_3 (X : px_X) (M : Nat → Nat → Int32) (J : Nat → Nat → Int64) (R : Nat → Nat → Option Nat) (c e : Nat) (nL : Nat) (xs : Nat → Int32) (D : px_H) (v1 : Int32) (v2 : Int32) (w0 : Int32) : px_p (kX1_tableRefusal X) 0 3 ([some (.ref 32), some (.int (v1)), some (.int (v2)), none], [.int (w0)], (hp M J R c e nL xs D)) =
    cond (decide (w0 < M 32 1))
    (px_run (px_mk (kX1_tableRefusal X)) 16 ([some (.ref 32), some (.int (v1)), some (.int (v2)), some (.int (w0))], [], (hp M J R c e nL xs D)))
    (some (some (.int (1)), (hp M J R c e nL xs D))) := rfl
set_option maxRecDepth 40000 in
theorem eX1_tableRefusal_16 (X : px_X) (M : Nat → Nat → Int32) (J : Nat → Nat → Int64) (R : Nat → Nat → Option Nat) (c e : Nat) (nL : Nat) (xs : Nat → Int32) (D : px_H) (o1 : Option Value) (v2 : Int32) (v3 : Int32) : px_run (px_mk (kX1_tableRefusal X)) 16 ([some (.ref 32), o1, some (.int (v2)), some (.int (v3))], [], (hp M J R c e nL xs D)) =
    cond (px_inb (v3) 8)
    (cond (decide (v2 ≤ ((M 34) (Int32.toNatClampNeg (v3)))))
    (px_run (px_mk (kX1_tableRefusal X)) 30 ([some (.ref 32), none, some (.int (v2)), some (.int (v3))], [], (hp M J R c e nL xs D)))
    (px_run (px_mk (kX1_tableRefusal X)) 31 ([some (.ref 32), none, some (.int (v2)), some (.int (v3))], [.int (2)], (hp M J R c e nL xs D)))) none := (px_run_eq _ _ _).trans rfl
set_option maxRecDepth 40000 in
theorem eX1_tableRefusal_30 (X : px_X) (M : Nat → Nat → Int32) (J : Nat → Nat → Int64) (R : Nat → Nat → Option Nat) (c e : Nat) (nL : Nat) (xs : Nat → Int32) (D : px_H) (o0 : Option Value) (o1 : Option Value) (o2 : Option Value) (o3 : Option Value) : px_run (px_mk (kX1_tableRefusal X)) 30 ([o0, o1, o2, o3], [], (hp M J R c e nL xs D)) =
    px_run (px_mk (kX1_tableRefusal X)) 31 ([none, none, none, none], [.int (0)], (hp M J R c e nL xs D)) := (px_run_eq _ _ _).trans rfl
set_option maxRecDepth 40000 in
theorem eX1_tableRefusal_31 (X : px_X) (M : Nat → Nat → Int32) (J : Nat → Nat → Int64) (R : Nat → Nat → Option Nat) (c e : Nat) (nL : Nat) (xs : Nat → Int32) (D : px_H) (o0 : Option Value) (o1 : Option Value) (o2 : Option Value) (o3 : Option Value) (w0 : Int32) : px_run (px_mk (kX1_tableRefusal X)) 31 ([o0, o1, o2, o3], [.int (w0)], (hp M J R c e nL xs D)) =
    some (some (.int (w0)), (hp M J R c e nL xs D)) := (px_run_eq _ _ _).trans rfl
set_option maxRecDepth 40000 in
theorem eX1_timeRefusal_0 (X : px_X) (M : Nat → Nat → Int32) (J : Nat → Nat → Int64) (R : Nat → Nat → Option Nat) (c e : Nat) (nL : Nat) (xs : Nat → Int32) (D : px_H) (v1 : Int32) (v2 : Int32) (v3 : Int32) (v4 : Int32) (v5 : Int32) : px_run (px_mk (kX1_timeRefusal X)) 0 ([some (.ref 32), some (.int (v1)), some (.int (v2)), some (.int (v3)), some (.int (v4)), some (.int (v5)), none, none, none, none], [], (hp M J R c e nL xs D)) =
    px_run (px_mk (kX1_timeRefusal X)) 12 ([some (.ref 32), some (.int (v1)), some (.int (v2)), some (.int (v3)), some (.int (v4)), some (.int (v5)), some (.int (0)), some (.int ((v3 + v4))), some (.int (0)), none], [], (hp M J R c e nL xs D)) := (px_run_eq _ _ _).trans rfl
set_option maxRecDepth 40000 in
theorem eX1_timeRefusal_12 (X : px_X) (M : Nat → Nat → Int32) (J : Nat → Nat → Int64) (R : Nat → Nat → Option Nat) (c e : Nat) (nL : Nat) (xs : Nat → Int32) (D : px_H) (v1 : Int32) (v2 : Int32) (v3 : Int32) (v4 : Int32) (v5 : Int32) (v6 : Int32) (v7 : Int32) (v8 : Int32) (o9 : Option Value) : px_run (px_mk (kX1_timeRefusal X)) 12 ([some (.ref 32), some (.int (v1)), some (.int (v2)), some (.int (v3)), some (.int (v4)), some (.int (v5)), some (.int (v6)), some (.int (v7)), some (.int (v8)), o9], [], (hp M J R c e nL xs D)) =
    cond (decide (M 32 2 ≤ v8))
    (px_run (px_mk (kX1_timeRefusal X)) 98 ([some (.ref 32), some (.int (v1)), some (.int (v2)), some (.int (v3)), some (.int (v4)), some (.int (v5)), some (.int (v6)), some (.int (v7)), some (.int (v8)), none], [], (hp M J R c e nL xs D)))
    (cond (px_inb (v8) 40)
    (px_bo (R 36 (Int32.toNatClampNeg (v8)))
    (px_run (px_mk (kX1_timeRefusal X)) 92 ([some (.ref 32), some (.int (v1)), some (.int (v2)), some (.int (v3)), some (.int (v4)), some (.int (v5)), some (.int (v6)), some (.int (v7)), some (.int (v8)), some (.null)], [], (hp M J R c e nL xs D)))
    (fun a => px_p (kX1_timeRefusal X) 12 13 ([some (.ref 32), some (.int (v1)), some (.int (v2)), some (.int (v3)), some (.int (v4)), some (.int (v5)), some (.int (v6)), some (.int (v7)), some (.int (v8)), some (.ref (a))], [.int (v1), .ref (a)], (hp M J R c e nL xs D)))) none) := (px_run_eq _ _ _).trans rfl
set_option maxRecDepth 40000 in
theorem eX1_timeRefusal_98 (X : px_X) (M : Nat → Nat → Int32) (J : Nat → Nat → Int64) (R : Nat → Nat → Option Nat) (c e : Nat) (nL : Nat) (xs : Nat → Int32) (D : px_H) (v1 : Int32) (v2 : Int32) (v3 : Int32) (v4 : Int32) (o5 : Option Value) (v6 : Int32) (o7 : Option Value) (o8 : Option Value) (o9 : Option Value) : px_run (px_mk (kX1_timeRefusal X)) 98 ([some (.ref 32), some (.int (v1)), some (.int (v2)), some (.int (v3)), some (.int (v4)), o5, some (.int (v6)), o7, o8, o9], [], (hp M J R c e nL xs D)) =
    cond (decide (v6 = 0))
    (px_run (px_mk (kX1_timeRefusal X)) 105 ([some (.ref 32), some (.int (v1)), some (.int (v2)), some (.int (v3)), some (.int (v4)), none, some (.int (v6)), none, none, none], [], (hp M J R c e nL xs D)))
    (some (some (.int (4)), (hp M J R c e nL xs D))) := (px_run_eq _ _ _).trans rfl
set_option maxRecDepth 40000 in
theorem eX1_timeRefusal_92 (X : px_X) (M : Nat → Nat → Int32) (J : Nat → Nat → Int64) (R : Nat → Nat → Option Nat) (c e : Nat) (nL : Nat) (xs : Nat → Int32) (D : px_H) (v1 : Int32) (v2 : Int32) (v3 : Int32) (v4 : Int32) (v5 : Int32) (v6 : Int32) (v7 : Int32) (v8 : Int32) (o9 : Option Value) : px_run (px_mk (kX1_timeRefusal X)) 92 ([some (.ref 32), some (.int (v1)), some (.int (v2)), some (.int (v3)), some (.int (v4)), some (.int (v5)), some (.int (v6)), some (.int (v7)), some (.int (v8)), o9], [], (hp M J R c e nL xs D)) =
    px_run (px_mk (kX1_timeRefusal X)) 12 ([some (.ref 32), some (.int (v1)), some (.int (v2)), some (.int (v3)), some (.int (v4)), some (.int (v5)), some (.int (v6)), some (.int (v7)), some (.int ((v8 + 1))), none], [], (hp M J R c e nL xs D)) := (px_run_eq _ _ _).trans rfl
set_option maxRecDepth 40000 in
theorem eX1_timeRefusal_12_13 (X : px_X) (G : px_H) (v1 : Int32) (v2 : Int32) (v3 : Int32) (v4 : Int32) (v5 : Int32) (v6 : Int32) (v7 : Int32) (v8 : Int32) (f9 : Nat) (g0 : Nat) (w1 : Int32) : px_p (kX1_timeRefusal X) 12 13 ([some (.ref 32), some (.int (v1)), some (.int (v2)), some (.int (v3)), some (.int (v4)), some (.int (v5)), some (.int (v6)), some (.int (v7)), some (.int (v8)), some (.ref (f9))], [.int (w1), .ref (g0)], G) =
    cond (px_isc G (g0) 0)
    (px_bd (X 2 [.ref (g0), .int (w1)] G)
    (fun v G1 => px_p (kX1_timeRefusal X) 12 14 ([some (.ref 32), some (.int (v1)), some (.int (v2)), some (.int (v3)), some (.int (v4)), some (.int (v5)), some (.int (v6)), some (.int (v7)), some (.int (v8)), some (.ref (f9))], px_psh v [], G1))) none := px_scallV rfl rfl rfl rfl
set_option maxRecDepth 40000 in
theorem eX1_timeRefusal_105 (X : px_X) (M : Nat → Nat → Int32) (J : Nat → Nat → Int64) (R : Nat → Nat → Option Nat) (c e : Nat) (nL : Nat) (xs : Nat → Int32) (D : px_H) (v1 : Int32) (v2 : Int32) (v3 : Int32) (v4 : Int32) (o5 : Option Value) (o6 : Option Value) (o7 : Option Value) (o8 : Option Value) (o9 : Option Value) : px_run (px_mk (kX1_timeRefusal X)) 105 ([some (.ref 32), some (.int (v1)), some (.int (v2)), some (.int (v3)), some (.int (v4)), o5, o6, o7, o8, o9], [], (hp M J R c e nL xs D)) =
    px_bd (X 16 [.ref 32, .int (v1), .int ((v3 / 1440))] (hp M J R c e nL xs D))
    (fun v G1 => px_p (kX1_timeRefusal X) 105 8 ([some (.ref 32), some (.int (v1)), some (.int (v2)), some (.int (v3)), some (.int (v4)), none, none, none, some (.int ((v3 / 1440))), none], px_psh v [], G1)) := (px_run_eq _ _ _).trans rfl
set_option maxRecDepth 40000 in
theorem eX1_timeRefusal_12_14 (X : px_X) (M : Nat → Nat → Int32) (J : Nat → Nat → Int64) (R : Nat → Nat → Option Nat) (c e : Nat) (nL : Nat) (xs : Nat → Int32) (D : px_H) (v1 : Int32) (v2 : Int32) (v3 : Int32) (v4 : Int32) (v5 : Int32) (v6 : Int32) (v7 : Int32) (v8 : Int32) (f9 : Nat) (w0 : Int32) : px_p (kX1_timeRefusal X) 12 14 ([some (.ref 32), some (.int (v1)), some (.int (v2)), some (.int (v3)), some (.int (v4)), some (.int (v5)), some (.int (v6)), some (.int (v7)), some (.int (v8)), some (.ref (f9))], [.int (w0)], (hp M J R c e nL xs D)) =
    cond (decide (¬ w0 = 0))
    (px_run (px_mk (kX1_timeRefusal X)) 53 ([some (.ref 32), some (.int (v1)), some (.int (v2)), some (.int (v3)), some (.int (v4)), some (.int (v5)), some (.int (v6)), some (.int (v7)), some (.int (v8)), some (.ref (f9))], [], (hp M J R c e nL xs D)))
    (px_p (kX1_timeRefusal X) 12 17 ([some (.ref 32), some (.int (v1)), some (.int (v2)), some (.int (v3)), some (.int (v4)), some (.int (v5)), some (.int (v6)), some (.int (v7)), some (.int (v8)), some (.ref (f9))], [.int (v2), .ref (f9)], (hp M J R c e nL xs D))) := rfl
set_option maxRecDepth 40000 in
theorem eX1_timeRefusal_105_8 (X : px_X) (M : Nat → Nat → Int32) (J : Nat → Nat → Int64) (R : Nat → Nat → Option Nat) (c e : Nat) (nL : Nat) (xs : Nat → Int32) (D : px_H) (v1 : Int32) (v2 : Int32) (v3 : Int32) (v4 : Int32) (v8 : Int32) (w0 : Int32) : px_p (kX1_timeRefusal X) 105 8 ([some (.ref 32), some (.int (v1)), some (.int (v2)), some (.int (v3)), some (.int (v4)), none, none, none, some (.int (v8)), none], [.int (w0)], (hp M J R c e nL xs D)) =
    px_bd (X 16 [.ref 32, .int (v2), .int (v8)] (hp M J R c e nL xs D))
    (fun v G1 => px_p (kX1_timeRefusal X) 105 12 ([some (.ref 32), some (.int (v1)), some (.int (v2)), some (.int (v3)), some (.int (v4)), none, none, none, some (.int (v8)), none], px_psh v [.int (w0)], G1)) := rfl
set_option maxRecDepth 40000 in
theorem eX1_timeRefusal_53 (X : px_X) (M : Nat → Nat → Int32) (J : Nat → Nat → Int64) (R : Nat → Nat → Option Nat) (c e : Nat) (nL : Nat) (xs : Nat → Int32) (D : px_H) (v1 : Int32) (v2 : Int32) (v3 : Int32) (v4 : Int32) (v5 : Int32) (v6 : Int32) (v7 : Int32) (v8 : Int32) (f9 : Nat) : px_run (px_mk (kX1_timeRefusal X)) 53 ([some (.ref 32), some (.int (v1)), some (.int (v2)), some (.int (v3)), some (.int (v4)), some (.int (v5)), some (.int (v6)), some (.int (v7)), some (.int (v8)), some (.ref (f9))], [], (hp M J R c e nL xs D)) =
    px_p (kX1_timeRefusal X) 53 3 ([some (.ref 32), some (.int (v1)), some (.int (v2)), some (.int (v3)), some (.int (v4)), some (.int (v5)), some (.int (v6)), some (.int (v7)), some (.int (v8)), some (.ref (f9))], [.int (v7), .int (v3), .ref (f9)], (hp M J R c e nL xs D)) := (px_run_eq _ _ _).trans rfl
set_option maxRecDepth 40000 in
theorem eX1_timeRefusal_12_17 (X : px_X) (G : px_H) (v1 : Int32) (v2 : Int32) (v3 : Int32) (v4 : Int32) (v5 : Int32) (v6 : Int32) (v7 : Int32) (v8 : Int32) (f9 : Nat) (g0 : Nat) (w1 : Int32) : px_p (kX1_timeRefusal X) 12 17 ([some (.ref 32), some (.int (v1)), some (.int (v2)), some (.int (v3)), some (.int (v4)), some (.int (v5)), some (.int (v6)), some (.int (v7)), some (.int (v8)), some (.ref (f9))], [.int (w1), .ref (g0)], G) =
    cond (px_isc G (g0) 0)
    (px_bd (X 2 [.ref (g0), .int (w1)] G)
    (fun v G1 => px_p (kX1_timeRefusal X) 12 18 ([some (.ref 32), some (.int (v1)), some (.int (v2)), some (.int (v3)), some (.int (v4)), some (.int (v5)), some (.int (v6)), some (.int (v7)), some (.int (v8)), some (.ref (f9))], px_psh v [], G1))) none := px_scallV rfl rfl rfl rfl
set_option maxRecDepth 40000 in
theorem eX1_timeRefusal_105_12 (X : px_X) (M : Nat → Nat → Int32) (J : Nat → Nat → Int64) (R : Nat → Nat → Option Nat) (c e : Nat) (nL : Nat) (xs : Nat → Int32) (D : px_H) (v1 : Int32) (v2 : Int32) (v3 : Int32) (v4 : Int32) (v8 : Int32) (w0 : Int32) (w1 : Int32) : px_p (kX1_timeRefusal X) 105 12 ([some (.ref 32), some (.int (v1)), some (.int (v2)), some (.int (v3)), some (.int (v4)), none, none, none, some (.int (v8)), none], [.int (w1), .int (w0)], (hp M J R c e nL xs D)) =
    cond (decide (((if w0 < w1 then w1 else w0) + v4) ≤ 120))
    (px_run (px_mk (kX1_timeRefusal X)) 145 ([some (.ref 32), some (.int (v1)), some (.int (v2)), some (.int (v3)), some (.int (v4)), none, none, none, some (.int (v8)), some (.int ((if w0 < w1 then w1 else w0)))], [], (hp M J R c e nL xs D)))
    (px_run (px_mk (kX1_timeRefusal X)) 146 ([some (.ref 32), some (.int (v1)), some (.int (v2)), some (.int (v3)), some (.int (v4)), none, none, none, some (.int (v8)), some (.int ((if w0 < w1 then w1 else w0)))], [.int (5)], (hp M J R c e nL xs D))) := rfl
set_option maxRecDepth 40000 in
theorem eX1_timeRefusal_53_3 (X : px_X) (G : px_H) (v1 : Int32) (v2 : Int32) (v3 : Int32) (v4 : Int32) (v5 : Int32) (v6 : Int32) (v7 : Int32) (v8 : Int32) (f9 : Nat) (g0 : Nat) (w1 : Int32) (w2 : Int32) : px_p (kX1_timeRefusal X) 53 3 ([some (.ref 32), some (.int (v1)), some (.int (v2)), some (.int (v3)), some (.int (v4)), some (.int (v5)), some (.int (v6)), some (.int (v7)), some (.int (v8)), some (.ref (f9))], [.int (w2), .int (w1), .ref (g0)], G) =
    cond (px_isc G (g0) 0)
    (px_bd (X 3 [.ref (g0), .int (w1), .int (w2)] G)
    (fun v G1 => px_p (kX1_timeRefusal X) 53 4 ([some (.ref 32), some (.int (v1)), some (.int (v2)), some (.int (v3)), some (.int (v4)), some (.int (v5)), some (.int (v6)), some (.int (v7)), some (.int (v8)), some (.ref (f9))], px_psh v [], G1))) none := px_scallV rfl rfl rfl rfl
set_option maxRecDepth 40000 in
theorem eX1_timeRefusal_12_18 (X : px_X) (M : Nat → Nat → Int32) (J : Nat → Nat → Int64) (R : Nat → Nat → Option Nat) (c e : Nat) (nL : Nat) (xs : Nat → Int32) (D : px_H) (v1 : Int32) (v2 : Int32) (v3 : Int32) (v4 : Int32) (v5 : Int32) (v6 : Int32) (v7 : Int32) (v8 : Int32) (f9 : Nat) (w0 : Int32) : px_p (kX1_timeRefusal X) 12 18 ([some (.ref 32), some (.int (v1)), some (.int (v2)), some (.int (v3)), some (.int (v4)), some (.int (v5)), some (.int (v6)), some (.int (v7)), some (.int (v8)), some (.ref (f9))], [.int (w0)], (hp M J R c e nL xs D)) =
    cond (decide (w0 = 0))
    (px_run (px_mk (kX1_timeRefusal X)) 92 ([some (.ref 32), some (.int (v1)), some (.int (v2)), some (.int (v3)), some (.int (v4)), some (.int (v5)), some (.int (v6)), some (.int (v7)), some (.int (v8)), some (.ref (f9))], [], (hp M J R c e nL xs D)))
    (px_run (px_mk (kX1_timeRefusal X)) 53 ([some (.ref 32), some (.int (v1)), some (.int (v2)), some (.int (v3)), some (.int (v4)), some (.int (v5)), some (.int (v6)), some (.int (v7)), some (.int (v8)), some (.ref (f9))], [], (hp M J R c e nL xs D))) := rfl
set_option maxRecDepth 40000 in
theorem eX1_timeRefusal_145 (X : px_X) (M : Nat → Nat → Int32) (J : Nat → Nat → Int64) (R : Nat → Nat → Option Nat) (c e : Nat) (nL : Nat) (xs : Nat → Int32) (D : px_H) (o0 : Option Value) (o1 : Option Value) (o2 : Option Value) (o3 : Option Value) (o4 : Option Value) (o5 : Option Value) (o6 : Option Value) (o7 : Option Value) (o8 : Option Value) (o9 : Option Value) : px_run (px_mk (kX1_timeRefusal X)) 145 ([o0, o1, o2, o3, o4, o5, o6, o7, o8, o9], [], (hp M J R c e nL xs D)) =
    px_run (px_mk (kX1_timeRefusal X)) 146 ([none, none, none, none, none, none, none, none, none, none], [.int (0)], (hp M J R c e nL xs D)) := (px_run_eq _ _ _).trans rfl
set_option maxRecDepth 40000 in
theorem eX1_timeRefusal_146 (X : px_X) (M : Nat → Nat → Int32) (J : Nat → Nat → Int64) (R : Nat → Nat → Option Nat) (c e : Nat) (nL : Nat) (xs : Nat → Int32) (D : px_H) (o0 : Option Value) (o1 : Option Value) (o2 : Option Value) (o3 : Option Value) (o4 : Option Value) (o5 : Option Value) (o6 : Option Value) (o7 : Option Value) (o8 : Option Value) (o9 : Option Value) (w0 : Int32) : px_run (px_mk (kX1_timeRefusal X)) 146 ([o0, o1, o2, o3, o4, o5, o6, o7, o8, o9], [.int (w0)], (hp M J R c e nL xs D)) =
    some (some (.int (w0)), (hp M J R c e nL xs D)) := (px_run_eq _ _ _).trans rfl
set_option maxRecDepth 40000 in
theorem eX1_timeRefusal_53_4 (X : px_X) (M : Nat → Nat → Int32) (J : Nat → Nat → Int64) (R : Nat → Nat → Option Nat) (c e : Nat) (nL : Nat) (xs : Nat → Int32) (D : px_H) (v1 : Int32) (v2 : Int32) (v3 : Int32) (v4 : Int32) (v5 : Int32) (v6 : Int32) (v7 : Int32) (v8 : Int32) (f9 : Nat) (w0 : Int32) : px_p (kX1_timeRefusal X) 53 4 ([some (.ref 32), some (.int (v1)), some (.int (v2)), some (.int (v3)), some (.int (v4)), some (.int (v5)), some (.int (v6)), some (.int (v7)), some (.int (v8)), some (.ref (f9))], [.int (w0)], (hp M J R c e nL xs D)) =
    cond (decide (w0 = 0))
    (px_run (px_mk (kX1_timeRefusal X)) 66 ([some (.ref 32), some (.int (v1)), some (.int (v2)), some (.int (v3)), some (.int (v4)), some (.int (v5)), some (.int (v6)), some (.int (v7)), some (.int (v8)), some (.ref (f9))], [], (hp M J R c e nL xs D)))
    (some (some (.int (3)), (hp M J R c e nL xs D))) := rfl
set_option maxRecDepth 40000 in
theorem eX1_timeRefusal_66 (X : px_X) (M : Nat → Nat → Int32) (J : Nat → Nat → Int64) (R : Nat → Nat → Option Nat) (c e : Nat) (nL : Nat) (xs : Nat → Int32) (D : px_H) (v1 : Int32) (v2 : Int32) (v3 : Int32) (v4 : Int32) (v5 : Int32) (v6 : Int32) (v7 : Int32) (v8 : Int32) (f9 : Nat) : px_run (px_mk (kX1_timeRefusal X)) 66 ([some (.ref 32), some (.int (v1)), some (.int (v2)), some (.int (v3)), some (.int (v4)), some (.int (v5)), some (.int (v6)), some (.int (v7)), some (.int (v8)), some (.ref (f9))], [], (hp M J R c e nL xs D)) =
    cond (decide (¬ v6 = 0))
    (px_run (px_mk (kX1_timeRefusal X)) 85 ([some (.ref 32), some (.int (v1)), some (.int (v2)), some (.int (v3)), some (.int (v4)), some (.int (v5)), some (.int (v6)), some (.int (v7)), some (.int (v8)), some (.ref (f9))], [], (hp M J R c e nL xs D)))
    (px_bd (X 15 [.ref 32, .ref (f9), .int (v3), .int (v7), .int (v5)] (hp M J R c e nL xs D))
    (fun v G1 => px_p (kX1_timeRefusal X) 66 8 ([some (.ref 32), some (.int (v1)), some (.int (v2)), some (.int (v3)), some (.int (v4)), some (.int (v5)), some (.int (v6)), some (.int (v7)), some (.int (v8)), some (.ref (f9))], px_psh v [], G1))) := (px_run_eq _ _ _).trans rfl
set_option maxRecDepth 40000 in
theorem eX1_timeRefusal_85 (X : px_X) (M : Nat → Nat → Int32) (J : Nat → Nat → Int64) (R : Nat → Nat → Option Nat) (c e : Nat) (nL : Nat) (xs : Nat → Int32) (D : px_H) (v1 : Int32) (v2 : Int32) (v3 : Int32) (v4 : Int32) (v5 : Int32) (o6 : Option Value) (v7 : Int32) (v8 : Int32) (o9 : Option Value) : px_run (px_mk (kX1_timeRefusal X)) 85 ([some (.ref 32), some (.int (v1)), some (.int (v2)), some (.int (v3)), some (.int (v4)), some (.int (v5)), o6, some (.int (v7)), some (.int (v8)), o9], [], (hp M J R c e nL xs D)) =
    px_run (px_mk (kX1_timeRefusal X)) 90 ([some (.ref 32), some (.int (v1)), some (.int (v2)), some (.int (v3)), some (.int (v4)), some (.int (v5)), none, some (.int (v7)), some (.int (v8)), none], [.int (1)], (hp M J R c e nL xs D)) := (px_run_eq _ _ _).trans rfl
set_option maxRecDepth 40000 in
theorem eX1_timeRefusal_66_8 (X : px_X) (M : Nat → Nat → Int32) (J : Nat → Nat → Int64) (R : Nat → Nat → Option Nat) (c e : Nat) (nL : Nat) (xs : Nat → Int32) (D : px_H) (v1 : Int32) (v2 : Int32) (v3 : Int32) (v4 : Int32) (v5 : Int32) (v6 : Int32) (v7 : Int32) (v8 : Int32) (f9 : Nat) (w0 : Int32) : px_p (kX1_timeRefusal X) 66 8 ([some (.ref 32), some (.int (v1)), some (.int (v2)), some (.int (v3)), some (.int (v4)), some (.int (v5)), some (.int (v6)), some (.int (v7)), some (.int (v8)), some (.ref (f9))], [.int (w0)], (hp M J R c e nL xs D)) =
    cond (decide (w0 = 0))
    (px_run (px_mk (kX1_timeRefusal X)) 89 ([some (.ref 32), some (.int (v1)), some (.int (v2)), some (.int (v3)), some (.int (v4)), some (.int (v5)), some (.int (v6)), some (.int (v7)), some (.int (v8)), some (.ref (f9))], [], (hp M J R c e nL xs D)))
    (px_run (px_mk (kX1_timeRefusal X)) 85 ([some (.ref 32), some (.int (v1)), some (.int (v2)), some (.int (v3)), some (.int (v4)), some (.int (v5)), some (.int (v6)), some (.int (v7)), some (.int (v8)), some (.ref (f9))], [], (hp M J R c e nL xs D))) := rfl
set_option maxRecDepth 40000 in
theorem eX1_timeRefusal_90 (X : px_X) (M : Nat → Nat → Int32) (J : Nat → Nat → Int64) (R : Nat → Nat → Option Nat) (c e : Nat) (nL : Nat) (xs : Nat → Int32) (D : px_H) (v1 : Int32) (v2 : Int32) (v3 : Int32) (v4 : Int32) (v5 : Int32) (o6 : Option Value) (v7 : Int32) (v8 : Int32) (o9 : Option Value) (w0 : Int32) : px_run (px_mk (kX1_timeRefusal X)) 90 ([some (.ref 32), some (.int (v1)), some (.int (v2)), some (.int (v3)), some (.int (v4)), some (.int (v5)), o6, some (.int (v7)), some (.int (v8)), o9], [.int (w0)], (hp M J R c e nL xs D)) =
    px_run (px_mk (kX1_timeRefusal X)) 92 ([some (.ref 32), some (.int (v1)), some (.int (v2)), some (.int (v3)), some (.int (v4)), some (.int (v5)), some (.int (w0)), some (.int (v7)), some (.int (v8)), none], [], (hp M J R c e nL xs D)) := (px_run_eq _ _ _).trans rfl
set_option maxRecDepth 40000 in
theorem eX1_timeRefusal_89 (X : px_X) (M : Nat → Nat → Int32) (J : Nat → Nat → Int64) (R : Nat → Nat → Option Nat) (c e : Nat) (nL : Nat) (xs : Nat → Int32) (D : px_H) (v1 : Int32) (v2 : Int32) (v3 : Int32) (v4 : Int32) (v5 : Int32) (o6 : Option Value) (v7 : Int32) (v8 : Int32) (o9 : Option Value) : px_run (px_mk (kX1_timeRefusal X)) 89 ([some (.ref 32), some (.int (v1)), some (.int (v2)), some (.int (v3)), some (.int (v4)), some (.int (v5)), o6, some (.int (v7)), some (.int (v8)), o9], [], (hp M J R c e nL xs D)) =
    px_run (px_mk (kX1_timeRefusal X)) 90 ([some (.ref 32), some (.int (v1)), some (.int (v2)), some (.int (v3)), some (.int (v4)), some (.int (v5)), none, some (.int (v7)), some (.int (v8)), none], [.int (0)], (hp M J R c e nL xs D)) := (px_run_eq _ _ _).trans rfl
set_option maxRecDepth 40000 in
theorem eX1_isTooNear_0 (X : px_X) (M : Nat → Nat → Int32) (J : Nat → Nat → Int64) (R : Nat → Nat → Option Nat) (c e : Nat) (nL : Nat) (xs : Nat → Int32) (D : px_H) (f1 : Nat) (v2 : Int32) (v3 : Int32) (v4 : Int32) : px_run (px_mk (kX1_isTooNear X)) 0 ([some (.ref 32), some (.ref (f1)), some (.int (v2)), some (.int (v3)), some (.int (v4))], [], (hp M J R c e nL xs D)) =
    px_p (kX1_isTooNear X) 0 1 ([some (.ref 32), some (.ref (f1)), some (.int (v2)), some (.int (v3)), some (.int (v4))], [.ref (f1)], (hp M J R c e nL xs D)) := (px_run_eq _ _ _).trans rfl
set_option maxRecDepth 40000 in
theorem eX1_isTooNear_0_1 (X : px_X) (G : px_H) (f1 : Nat) (v2 : Int32) (v3 : Int32) (v4 : Int32) (g0 : Nat) : px_p (kX1_isTooNear X) 0 1 ([some (.ref 32), some (.ref (f1)), some (.int (v2)), some (.int (v3)), some (.int (v4))], [.ref (g0)], G) =
    cond (px_isc G (g0) 0)
    (px_bd (X 1 [.ref (g0)] G)
    (fun v G1 => px_p (kX1_isTooNear X) 0 2 ([some (.ref 32), some (.ref (f1)), some (.int (v2)), some (.int (v3)), some (.int (v4))], px_psh v [], G1))) none := px_scallV rfl rfl rfl rfl
set_option maxRecDepth 40000 in
theorem eX1_isTooNear_0_2 (X : px_X) (M : Nat → Nat → Int32) (J : Nat → Nat → Int64) (R : Nat → Nat → Option Nat) (c e : Nat) (nL : Nat) (xs : Nat → Int32) (D : px_H) (f1 : Nat) (v2 : Int32) (v3 : Int32) (v4 : Int32) (w0 : Int32) : px_p (kX1_isTooNear X) 0 2 ([some (.ref 32), some (.ref (f1)), some (.int (v2)), some (.int (v3)), some (.int (v4))], [.int (w0)], (hp M J R c e nL xs D)) =
    cond (decide (v2 ≤ w0))
    (px_run (px_mk (kX1_isTooNear X)) 31 ([some (.ref 32), some (.ref (f1)), some (.int (v2)), some (.int (v3)), some (.int (v4))], [], (hp M J R c e nL xs D)))
    (px_p (kX1_isTooNear X) 0 6 ([some (.ref 32), some (.ref (f1)), some (.int (v2)), some (.int (v3)), some (.int (v4))], [.ref (f1), .int (v2)], (hp M J R c e nL xs D))) := rfl
set_option maxRecDepth 40000 in
theorem eX1_isTooNear_31 (X : px_X) (M : Nat → Nat → Int32) (J : Nat → Nat → Int64) (R : Nat → Nat → Option Nat) (c e : Nat) (nL : Nat) (xs : Nat → Int32) (D : px_H) (o0 : Option Value) (f1 : Nat) (o2 : Option Value) (v3 : Int32) (v4 : Int32) : px_run (px_mk (kX1_isTooNear X)) 31 ([o0, some (.ref (f1)), o2, some (.int (v3)), some (.int (v4))], [], (hp M J R c e nL xs D)) =
    px_p (kX1_isTooNear X) 31 1 ([none, some (.ref (f1)), none, some (.int (v3)), some (.int (v4))], [.ref (f1)], (hp M J R c e nL xs D)) := (px_run_eq _ _ _).trans rfl
set_option maxRecDepth 40000 in
theorem eX1_isTooNear_0_6 (X : px_X) (G : px_H) (f1 : Nat) (v2 : Int32) (v3 : Int32) (v4 : Int32) (w0 : Int32) (g1 : Nat) : px_p (kX1_isTooNear X) 0 6 ([some (.ref 32), some (.ref (f1)), some (.int (v2)), some (.int (v3)), some (.int (v4))], [.ref (g1), .int (w0)], G) =
    cond (px_isc G (g1) 0)
    (px_bd (X 1 [.ref (g1)] G)
    (fun v G1 => px_p (kX1_isTooNear X) 0 7 ([some (.ref 32), some (.ref (f1)), some (.int (v2)), some (.int (v3)), some (.int (v4))], px_psh v [.int (w0)], G1))) none := px_scallV rfl rfl rfl rfl
set_option maxRecDepth 40000 in
theorem eX1_isTooNear_31_1 (X : px_X) (G : px_H) (f1 : Nat) (v3 : Int32) (v4 : Int32) (g0 : Nat) : px_p (kX1_isTooNear X) 31 1 ([none, some (.ref (f1)), none, some (.int (v3)), some (.int (v4))], [.ref (g0)], G) =
    px_vb (px_gf G (g0) 0 2) (fun v => px_p (kX1_isTooNear X) 31 2 ([none, some (.ref (f1)), none, some (.int (v3)), some (.int (v4))], v :: [], G)) := px_sgetf
set_option maxRecDepth 40000 in
theorem eX1_isTooNear_0_7 (X : px_X) (M : Nat → Nat → Int32) (J : Nat → Nat → Int64) (R : Nat → Nat → Option Nat) (c e : Nat) (nL : Nat) (xs : Nat → Int32) (D : px_H) (f1 : Nat) (v2 : Int32) (v3 : Int32) (v4 : Int32) (w0 : Int32) (w1 : Int32) : px_p (kX1_isTooNear X) 0 7 ([some (.ref 32), some (.ref (f1)), some (.int (v2)), some (.int (v3)), some (.int (v4))], [.int (w1), .int (w0)], (hp M J R c e nL xs D)) =
    px_p (kX1_isTooNear X) 0 10 ([some (.ref 32), some (.ref (f1)), some (.int (v2)), some (.int (v3)), some (.int (v4))], [.ref (f1), .ref 32, .int ((w0 - w1))], (hp M J R c e nL xs D)) := rfl
set_option maxRecDepth 40000 in
theorem eX1_isTooNear_31_2 (X : px_X) (M : Nat → Nat → Int32) (J : Nat → Nat → Int64) (R : Nat → Nat → Option Nat) (c e : Nat) (nL : Nat) (xs : Nat → Int32) (D : px_H) (f1 : Nat) (v3 : Int32) (v4 : Int32) (w0 : Int32) : px_p (kX1_isTooNear X) 31 2 ([none, some (.ref (f1)), none, some (.int (v3)), some (.int (v4))], [.int (w0)], (hp M J R c e nL xs D)) =
    cond (decide (v4 ≤ (w0 - v3)))
    (px_run (px_mk (kX1_isTooNear X)) 46 ([none, some (.ref (f1)), none, some (.int (v3)), some (.int (v4))], [], (hp M J R c e nL xs D)))
    (px_run (px_mk (kX1_isTooNear X)) 47 ([none, some (.ref (f1)), none, some (.int (v3)), some (.int (v4))], [.int (1)], (hp M J R c e nL xs D))) := rfl
set_option maxRecDepth 40000 in
theorem eX1_isTooNear_0_10 (X : px_X) (G : px_H) (f1 : Nat) (v2 : Int32) (v3 : Int32) (v4 : Int32) (w0 : Int32) (g2 : Nat) : px_p (kX1_isTooNear X) 0 10 ([some (.ref 32), some (.ref (f1)), some (.int (v2)), some (.int (v3)), some (.int (v4))], [.ref (g2), .ref 32, .int (w0)], G) =
    px_vb (px_gf G (g2) 0 3) (fun v => px_p (kX1_isTooNear X) 0 11 ([some (.ref 32), some (.ref (f1)), some (.int (v2)), some (.int (v3)), some (.int (v4))], v :: [.ref 32, .int (w0)], G)) := px_sgetf
set_option maxRecDepth 40000 in
theorem eX1_isTooNear_46 (X : px_X) (M : Nat → Nat → Int32) (J : Nat → Nat → Int64) (R : Nat → Nat → Option Nat) (c e : Nat) (nL : Nat) (xs : Nat → Int32) (D : px_H) (o0 : Option Value) (o1 : Option Value) (o2 : Option Value) (o3 : Option Value) (o4 : Option Value) : px_run (px_mk (kX1_isTooNear X)) 46 ([o0, o1, o2, o3, o4], [], (hp M J R c e nL xs D)) =
    px_run (px_mk (kX1_isTooNear X)) 47 ([none, none, none, none, none], [.int (0)], (hp M J R c e nL xs D)) := (px_run_eq _ _ _).trans rfl
set_option maxRecDepth 40000 in
theorem eX1_isTooNear_47 (X : px_X) (M : Nat → Nat → Int32) (J : Nat → Nat → Int64) (R : Nat → Nat → Option Nat) (c e : Nat) (nL : Nat) (xs : Nat → Int32) (D : px_H) (o0 : Option Value) (o1 : Option Value) (o2 : Option Value) (o3 : Option Value) (o4 : Option Value) (w0 : Int32) : px_run (px_mk (kX1_isTooNear X)) 47 ([o0, o1, o2, o3, o4], [.int (w0)], (hp M J R c e nL xs D)) =
    cond (decide (w0 = 0) || decide (w0 = 1)) (some (some (.int (w0)), (hp M J R c e nL xs D))) none := (px_run_eq _ _ _).trans rfl
set_option maxRecDepth 40000 in
theorem eX1_isTooNear_0_11 (X : px_X) (M : Nat → Nat → Int32) (J : Nat → Nat → Int64) (R : Nat → Nat → Option Nat) (c e : Nat) (nL : Nat) (xs : Nat → Int32) (D : px_H) (f1 : Nat) (v2 : Int32) (v3 : Int32) (v4 : Int32) (w0 : Int32) (w2 : Int32) : px_p (kX1_isTooNear X) 0 11 ([some (.ref 32), some (.ref (f1)), some (.int (v2)), some (.int (v3)), some (.int (v4))], [.int (w2), .ref 32, .int (w0)], (hp M J R c e nL xs D)) =
    px_bd (X 10 [.ref 32, .int (w2)] (hp M J R c e nL xs D))
    (fun v G1 => px_p (kX1_isTooNear X) 0 12 ([some (.ref 32), some (.ref (f1)), some (.int (v2)), some (.int (v3)), some (.int (v4))], px_psh v [.int (w0)], G1)) := rfl
set_option maxRecDepth 40000 in
theorem eX1_isTooNear_0_12 (X : px_X) (M : Nat → Nat → Int32) (J : Nat → Nat → Int64) (R : Nat → Nat → Option Nat) (c e : Nat) (nL : Nat) (xs : Nat → Int32) (D : px_H) (f1 : Nat) (v2 : Int32) (v3 : Int32) (v4 : Int32) (w0 : Int32) (w1 : Int32) : px_p (kX1_isTooNear X) 0 12 ([some (.ref 32), some (.ref (f1)), some (.int (v2)), some (.int (v3)), some (.int (v4))], [.int (w1), .int (w0)], (hp M J R c e nL xs D)) =
    cond (decide (w1 ≤ w0))
    (px_run (px_mk (kX1_isTooNear X)) 29 ([some (.ref 32), some (.ref (f1)), some (.int (v2)), some (.int (v3)), some (.int (v4))], [], (hp M J R c e nL xs D)))
    (px_run (px_mk (kX1_isTooNear X)) 30 ([some (.ref 32), some (.ref (f1)), some (.int (v2)), some (.int (v3)), some (.int (v4))], [.int (1)], (hp M J R c e nL xs D))) := rfl
set_option maxRecDepth 40000 in
theorem eX1_isTooNear_29 (X : px_X) (M : Nat → Nat → Int32) (J : Nat → Nat → Int64) (R : Nat → Nat → Option Nat) (c e : Nat) (nL : Nat) (xs : Nat → Int32) (D : px_H) (o0 : Option Value) (o1 : Option Value) (o2 : Option Value) (o3 : Option Value) (o4 : Option Value) : px_run (px_mk (kX1_isTooNear X)) 29 ([o0, o1, o2, o3, o4], [], (hp M J R c e nL xs D)) =
    px_run (px_mk (kX1_isTooNear X)) 30 ([none, none, none, none, none], [.int (0)], (hp M J R c e nL xs D)) := (px_run_eq _ _ _).trans rfl
set_option maxRecDepth 40000 in
theorem eX1_isTooNear_30 (X : px_X) (M : Nat → Nat → Int32) (J : Nat → Nat → Int64) (R : Nat → Nat → Option Nat) (c e : Nat) (nL : Nat) (xs : Nat → Int32) (D : px_H) (o0 : Option Value) (o1 : Option Value) (o2 : Option Value) (o3 : Option Value) (o4 : Option Value) (w0 : Int32) : px_run (px_mk (kX1_isTooNear X)) 30 ([o0, o1, o2, o3, o4], [.int (w0)], (hp M J R c e nL xs D)) =
    cond (decide (w0 = 0) || decide (w0 = 1)) (some (some (.int (w0)), (hp M J R c e nL xs D))) none := (px_run_eq _ _ _).trans rfl
set_option maxRecDepth 40000 in
theorem eX1_minutesOn_0 (X : px_X) (M : Nat → Nat → Int32) (J : Nat → Nat → Int64) (R : Nat → Nat → Option Nat) (c e : Nat) (nL : Nat) (xs : Nat → Int32) (D : px_H) (v1 : Int32) (v2 : Int32) : px_run (px_mk (kX1_minutesOn X)) 0 ([some (.ref 32), some (.int (v1)), some (.int (v2)), none, none, none], [], (hp M J R c e nL xs D)) =
    px_run (px_mk (kX1_minutesOn X)) 5 ([some (.ref 32), some (.int (v1)), some (.int (v2)), some (.int (0)), some (.int (0)), none], [], (hp M J R c e nL xs D)) := (px_run_eq _ _ _).trans rfl
set_option maxRecDepth 40000 in
theorem eX1_minutesOn_5 (X : px_X) (M : Nat → Nat → Int32) (J : Nat → Nat → Int64) (R : Nat → Nat → Option Nat) (c e : Nat) (nL : Nat) (xs : Nat → Int32) (D : px_H) (v1 : Int32) (v2 : Int32) (v3 : Int32) (v4 : Int32) (o5 : Option Value) : px_run (px_mk (kX1_minutesOn X)) 5 ([some (.ref 32), some (.int (v1)), some (.int (v2)), some (.int (v3)), some (.int (v4)), o5], [], (hp M J R c e nL xs D)) =
    cond (decide (M 32 2 ≤ v4))
    (px_run (px_mk (kX1_minutesOn X)) 64 ([some (.ref 32), some (.int (v1)), some (.int (v2)), some (.int (v3)), some (.int (v4)), none], [], (hp M J R c e nL xs D)))
    (cond (px_inb (v4) 40)
    (px_bo (R 36 (Int32.toNatClampNeg (v4)))
    (px_run (px_mk (kX1_minutesOn X)) 58 ([some (.ref 32), some (.int (v1)), some (.int (v2)), some (.int (v3)), some (.int (v4)), some (.null)], [], (hp M J R c e nL xs D)))
    (fun a => px_p (kX1_minutesOn X) 5 13 ([some (.ref 32), some (.int (v1)), some (.int (v2)), some (.int (v3)), some (.int (v4)), some (.ref (a))], [.int (v1), .ref (a)], (hp M J R c e nL xs D)))) none) := (px_run_eq _ _ _).trans rfl
set_option maxRecDepth 40000 in
theorem eX1_minutesOn_64 (X : px_X) (M : Nat → Nat → Int32) (J : Nat → Nat → Int64) (R : Nat → Nat → Option Nat) (c e : Nat) (nL : Nat) (xs : Nat → Int32) (D : px_H) (o0 : Option Value) (o1 : Option Value) (o2 : Option Value) (v3 : Int32) (o4 : Option Value) (o5 : Option Value) : px_run (px_mk (kX1_minutesOn X)) 64 ([o0, o1, o2, some (.int (v3)), o4, o5], [], (hp M J R c e nL xs D)) =
    some (some (.int (v3)), (hp M J R c e nL xs D)) := (px_run_eq _ _ _).trans rfl
set_option maxRecDepth 40000 in
theorem eX1_minutesOn_58 (X : px_X) (M : Nat → Nat → Int32) (J : Nat → Nat → Int64) (R : Nat → Nat → Option Nat) (c e : Nat) (nL : Nat) (xs : Nat → Int32) (D : px_H) (v1 : Int32) (v2 : Int32) (v3 : Int32) (v4 : Int32) (o5 : Option Value) : px_run (px_mk (kX1_minutesOn X)) 58 ([some (.ref 32), some (.int (v1)), some (.int (v2)), some (.int (v3)), some (.int (v4)), o5], [], (hp M J R c e nL xs D)) =
    px_run (px_mk (kX1_minutesOn X)) 5 ([some (.ref 32), some (.int (v1)), some (.int (v2)), some (.int (v3)), some (.int ((v4 + 1))), none], [], (hp M J R c e nL xs D)) := (px_run_eq _ _ _).trans rfl
set_option maxRecDepth 40000 in
theorem eX1_minutesOn_5_13 (X : px_X) (G : px_H) (v1 : Int32) (v2 : Int32) (v3 : Int32) (v4 : Int32) (f5 : Nat) (g0 : Nat) (w1 : Int32) : px_p (kX1_minutesOn X) 5 13 ([some (.ref 32), some (.int (v1)), some (.int (v2)), some (.int (v3)), some (.int (v4)), some (.ref (f5))], [.int (w1), .ref (g0)], G) =
    cond (px_isc G (g0) 0)
    (px_bd (X 2 [.ref (g0), .int (w1)] G)
    (fun v G1 => px_p (kX1_minutesOn X) 5 14 ([some (.ref 32), some (.int (v1)), some (.int (v2)), some (.int (v3)), some (.int (v4)), some (.ref (f5))], px_psh v [], G1))) none := px_scallV rfl rfl rfl rfl
set_option maxRecDepth 40000 in
theorem eX1_minutesOn_5_14 (X : px_X) (M : Nat → Nat → Int32) (J : Nat → Nat → Int64) (R : Nat → Nat → Option Nat) (c e : Nat) (nL : Nat) (xs : Nat → Int32) (D : px_H) (v1 : Int32) (v2 : Int32) (v3 : Int32) (v4 : Int32) (f5 : Nat) (w0 : Int32) : px_p (kX1_minutesOn X) 5 14 ([some (.ref 32), some (.int (v1)), some (.int (v2)), some (.int (v3)), some (.int (v4)), some (.ref (f5))], [.int (w0)], (hp M J R c e nL xs D)) =
    cond (decide (w0 = 0))
    (px_run (px_mk (kX1_minutesOn X)) 58 ([some (.ref 32), some (.int (v1)), some (.int (v2)), some (.int (v3)), some (.int (v4)), some (.ref (f5))], [], (hp M J R c e nL xs D)))
    (px_p (kX1_minutesOn X) 5 16 ([some (.ref 32), some (.int (v1)), some (.int (v2)), some (.int (v3)), some (.int (v4)), some (.ref (f5))], [.ref (f5)], (hp M J R c e nL xs D))) := rfl
set_option maxRecDepth 40000 in
theorem eX1_minutesOn_5_16 (X : px_X) (G : px_H) (v1 : Int32) (v2 : Int32) (v3 : Int32) (v4 : Int32) (f5 : Nat) (g0 : Nat) : px_p (kX1_minutesOn X) 5 16 ([some (.ref 32), some (.int (v1)), some (.int (v2)), some (.int (v3)), some (.int (v4)), some (.ref (f5))], [.ref (g0)], G) =
    px_vb (px_gf G (g0) 0 2) (fun v => px_p (kX1_minutesOn X) 5 17 ([some (.ref 32), some (.int (v1)), some (.int (v2)), some (.int (v3)), some (.int (v4)), some (.ref (f5))], v :: [], G)) := px_sgetf
set_option maxRecDepth 40000 in
theorem eX1_minutesOn_5_17 (X : px_X) (M : Nat → Nat → Int32) (J : Nat → Nat → Int64) (R : Nat → Nat → Option Nat) (c e : Nat) (nL : Nat) (xs : Nat → Int32) (D : px_H) (v1 : Int32) (v2 : Int32) (v3 : Int32) (v4 : Int32) (f5 : Nat) (w0 : Int32) : px_p (kX1_minutesOn X) 5 17 ([some (.ref 32), some (.int (v1)), some (.int (v2)), some (.int (v3)), some (.int (v4)), some (.ref (f5))], [.int (w0)], (hp M J R c e nL xs D)) =
    cond (decide (¬ (w0 / 1440) = v2))
    (px_run (px_mk (kX1_minutesOn X)) 58 ([some (.ref 32), some (.int (v1)), some (.int (v2)), some (.int (v3)), some (.int (v4)), some (.ref (f5))], [], (hp M J R c e nL xs D)))
    (px_p (kX1_minutesOn X) 5 23 ([some (.ref 32), some (.int (v1)), some (.int (v2)), some (.int (v3)), some (.int (v4)), some (.ref (f5))], [.ref (f5), .int (v3)], (hp M J R c e nL xs D))) := rfl
set_option maxRecDepth 40000 in
theorem eX1_minutesOn_5_23 (X : px_X) (G : px_H) (v1 : Int32) (v2 : Int32) (v3 : Int32) (v4 : Int32) (f5 : Nat) (w0 : Int32) (g1 : Nat) : px_p (kX1_minutesOn X) 5 23 ([some (.ref 32), some (.int (v1)), some (.int (v2)), some (.int (v3)), some (.int (v4)), some (.ref (f5))], [.ref (g1), .int (w0)], G) =
    px_vb (px_gf G (g1) 0 4) (fun v => px_p (kX1_minutesOn X) 5 24 ([some (.ref 32), some (.int (v1)), some (.int (v2)), some (.int (v3)), some (.int (v4)), some (.ref (f5))], v :: [.int (w0)], G)) := px_sgetf
set_option maxRecDepth 40000 in
theorem eX1_minutesOn_5_24 (X : px_X) (M : Nat → Nat → Int32) (J : Nat → Nat → Int64) (R : Nat → Nat → Option Nat) (c e : Nat) (nL : Nat) (xs : Nat → Int32) (D : px_H) (v1 : Int32) (v2 : Int32) (v3 : Int32) (v4 : Int32) (f5 : Nat) (w0 : Int32) (w1 : Int32) : px_p (kX1_minutesOn X) 5 24 ([some (.ref 32), some (.int (v1)), some (.int (v2)), some (.int (v3)), some (.int (v4)), some (.ref (f5))], [.int (w1), .int (w0)], (hp M J R c e nL xs D)) =
    px_run (px_mk (kX1_minutesOn X)) 58 ([some (.ref 32), some (.int (v1)), some (.int (v2)), some (.int ((w0 + w1))), some (.int (v4)), some (.ref (f5))], [], (hp M J R c e nL xs D)) := rfl
set_option maxRecDepth 40000 in
theorem eX1_dropLast_0 (X : px_X) (M : Nat → Nat → Int32) (J : Nat → Nat → Int64) (R : Nat → Nat → Option Nat) (c e : Nat) (nL : Nat) (xs : Nat → Int32) (D : px_H)  : px_run (px_mk (kX1_dropLast X)) 0 ([some (.ref 32)], [], (hp M J R c e nL xs D)) =
    cond (decide (1 ≤ M 32 2))
    (px_run (px_mk (kX1_dropLast X)) 11 ([some (.ref 32)], [], (hp M J R c e nL xs D)))
    (some (some (.int ((-3))), (hp M J R c e nL xs D))) := (px_run_eq _ _ _).trans rfl
set_option maxRecDepth 40000 in
theorem eX1_dropLast_11 (X : px_X) (M : Nat → Nat → Int32) (J : Nat → Nat → Int64) (R : Nat → Nat → Option Nat) (c e : Nat) (nL : Nat) (xs : Nat → Int32) (D : px_H)  : px_run (px_mk (kX1_dropLast X)) 11 ([some (.ref 32)], [], (hp M J R c e nL xs D)) =
    cond (px_inb ((M 32 2 - 1)) 40)
    (some (some (.int ((M 32 2 - 1))), (hp (px_uR M 32 (upd (M 32) 2 ((M 32 2 - 1)))) J (px_uQ R 36 (va_up (R 36) (Int32.toNatClampNeg ((M 32 2 - 1))) none)) c e nL xs D))) none := (px_run_eq _ _ _).trans rfl
set_option maxRecDepth 40000 in
theorem eX1_firstMoment_0 (X : px_X) (M : Nat → Nat → Int32) (J : Nat → Nat → Int64) (R : Nat → Nat → Option Nat) (c e : Nat) (nL : Nat) (xs : Nat → Int32) (D : px_H) (v1 : Int32) (v2 : Int32) (v3 : Int32) (v4 : Int32) (v5 : Int32) : px_run (px_mk (kX1_firstMoment X)) 0 ([some (.ref 32), some (.int (v1)), some (.int (v2)), some (.int (v3)), some (.int (v4)), some (.int (v5)), none, none, none, none, none, none], [], (hp M J R c e nL xs D)) =
    px_bd (X 13 [.ref 32, .int (v4), .int (v5)] (hp M J R c e nL xs D))
    (fun v G1 => px_p (kX1_firstMoment X) 0 4 ([some (.ref 32), some (.int (v1)), some (.int (v2)), some (.int (v3)), some (.int (v4)), some (.int (v5)), none, none, none, none, none, none], px_psh v [], G1)) := (px_run_eq _ _ _).trans rfl
set_option maxRecDepth 40000 in
theorem eX1_firstMoment_0_4 (X : px_X) (M : Nat → Nat → Int32) (J : Nat → Nat → Int64) (R : Nat → Nat → Option Nat) (c e : Nat) (nL : Nat) (xs : Nat → Int32) (D : px_H) (v1 : Int32) (v2 : Int32) (v3 : Int32) (v4 : Int32) (v5 : Int32) (w0 : Int32) : px_p (kX1_firstMoment X) 0 4 ([some (.ref 32), some (.int (v1)), some (.int (v2)), some (.int (v3)), some (.int (v4)), some (.int (v5)), none, none, none, none, none, none], [.int (w0)], (hp M J R c e nL xs D)) =
    cond (decide (w0 = 0))
    (px_run (px_mk (kX1_firstMoment X)) 13 ([some (.ref 32), some (.int (v1)), some (.int (v2)), some (.int (v3)), some (.int (v4)), some (.int (v5)), none, none, none, none, none, none], [], (hp M J R c e nL xs D)))
    (some (some (.int ((-1))), (hp M J R c e nL xs D))) := rfl
set_option maxRecDepth 40000 in
theorem eX1_firstMoment_13 (X : px_X) (M : Nat → Nat → Int32) (J : Nat → Nat → Int64) (R : Nat → Nat → Option Nat) (c e : Nat) (nL : Nat) (xs : Nat → Int32) (D : px_H) (v1 : Int32) (v2 : Int32) (v3 : Int32) (v4 : Int32) (v5 : Int32) (o6 : Option Value) (o7 : Option Value) (o8 : Option Value) (o9 : Option Value) (o10 : Option Value) (o11 : Option Value) : px_run (px_mk (kX1_firstMoment X)) 13 ([some (.ref 32), some (.int (v1)), some (.int (v2)), some (.int (v3)), some (.int (v4)), some (.int (v5)), o6, o7, o8, o9, o10, o11], [], (hp M J R c e nL xs D)) =
    px_bd (X 10 [.ref 32, .int (v4)] (hp M J R c e nL xs D))
    (fun v G1 => px_p (kX1_firstMoment X) 13 3 ([some (.ref 32), some (.int (v1)), some (.int (v2)), some (.int (v3)), some (.int (v4)), some (.int (v5)), none, none, none, none, none, none], px_psh v [], G1)) := (px_run_eq _ _ _).trans rfl
set_option maxRecDepth 40000 in
theorem eX1_firstMoment_13_3 (X : px_X) (M : Nat → Nat → Int32) (J : Nat → Nat → Int64) (R : Nat → Nat → Option Nat) (c e : Nat) (nL : Nat) (xs : Nat → Int32) (D : px_H) (v1 : Int32) (v2 : Int32) (v3 : Int32) (v4 : Int32) (v5 : Int32) (w0 : Int32) : px_p (kX1_firstMoment X) 13 3 ([some (.ref 32), some (.int (v1)), some (.int (v2)), some (.int (v3)), some (.int (v4)), some (.int (v5)), none, none, none, none, none, none], [.int (w0)], (hp M J R c e nL xs D)) =
    px_run (px_mk (kX1_firstMoment X)) 39 ([some (.ref 32), some (.int (v1)), some (.int (v2)), some (.int (v3)), some (.int (v4)), some (.int (v5)), some (.int (w0)), some (.int ((if 1439999 < (v3 + 10080) then 1439999 else (v3 + 10080)))), some (.int (v3)), some (.int (0)), none, none], [], (hp M J R c e nL xs D)) := rfl
set_option maxRecDepth 40000 in
theorem eX1_firstMoment_39 (X : px_X) (M : Nat → Nat → Int32) (J : Nat → Nat → Int64) (R : Nat → Nat → Option Nat) (c e : Nat) (nL : Nat) (xs : Nat → Int32) (D : px_H) (v1 : Int32) (v2 : Int32) (o3 : Option Value) (o4 : Option Value) (v5 : Int32) (v6 : Int32) (v7 : Int32) (v8 : Int32) (v9 : Int32) (o10 : Option Value) (o11 : Option Value) : px_run (px_mk (kX1_firstMoment X)) 39 ([some (.ref 32), some (.int (v1)), some (.int (v2)), o3, o4, some (.int (v5)), some (.int (v6)), some (.int (v7)), some (.int (v8)), some (.int (v9)), o10, o11], [], (hp M J R c e nL xs D)) =
    cond (decide (100 ≤ v9))
    (px_run (px_mk (kX1_firstMoment X)) 128 ([some (.ref 32), some (.int (v1)), some (.int (v2)), none, none, some (.int (v5)), some (.int (v6)), some (.int (v7)), some (.int (v8)), some (.int (v9)), none, none], [], (hp M J R c e nL xs D)))
    (cond (decide (v7 < v8))
    (px_run (px_mk (kX1_firstMoment X)) 128 ([some (.ref 32), some (.int (v1)), some (.int (v2)), none, none, some (.int (v5)), some (.int (v6)), some (.int (v7)), some (.int (v8)), some (.int (v9)), none, none], [], (hp M J R c e nL xs D)))
    (px_bd (X 14 [.ref 32, .int (v1), .int (v2), .int (v8), .int (v5), .int (v6)] (hp M J R c e nL xs D))
    (fun v G1 => px_p (kX1_firstMoment X) 39 13 ([some (.ref 32), some (.int (v1)), some (.int (v2)), none, none, some (.int (v5)), some (.int (v6)), some (.int (v7)), some (.int (v8)), some (.int (v9)), none, none], px_psh v [], G1)))) := (px_run_eq _ _ _).trans rfl
set_option maxRecDepth 40000 in
theorem eX1_firstMoment_128 (X : px_X) (M : Nat → Nat → Int32) (J : Nat → Nat → Int64) (R : Nat → Nat → Option Nat) (c e : Nat) (nL : Nat) (xs : Nat → Int32) (D : px_H) (o0 : Option Value) (o1 : Option Value) (o2 : Option Value) (o3 : Option Value) (o4 : Option Value) (o5 : Option Value) (o6 : Option Value) (o7 : Option Value) (o8 : Option Value) (o9 : Option Value) (o10 : Option Value) (o11 : Option Value) : px_run (px_mk (kX1_firstMoment X)) 128 ([o0, o1, o2, o3, o4, o5, o6, o7, o8, o9, o10, o11], [], (hp M J R c e nL xs D)) =
    some (some (.int ((-1))), (hp M J R c e nL xs D)) := (px_run_eq _ _ _).trans rfl
set_option maxRecDepth 40000 in
theorem eX1_firstMoment_39_13 (X : px_X) (M : Nat → Nat → Int32) (J : Nat → Nat → Int64) (R : Nat → Nat → Option Nat) (c e : Nat) (nL : Nat) (xs : Nat → Int32) (D : px_H) (v1 : Int32) (v2 : Int32) (v5 : Int32) (v6 : Int32) (v7 : Int32) (v8 : Int32) (v9 : Int32) (w0 : Int32) : px_p (kX1_firstMoment X) 39 13 ([some (.ref 32), some (.int (v1)), some (.int (v2)), none, none, some (.int (v5)), some (.int (v6)), some (.int (v7)), some (.int (v8)), some (.int (v9)), none, none], [.int (w0)], (hp M J R c e nL xs D)) =
    cond (decide (¬ w0 = 0))
    (px_run (px_mk (kX1_firstMoment X)) 75 ([some (.ref 32), some (.int (v1)), some (.int (v2)), none, none, some (.int (v5)), some (.int (v6)), some (.int (v7)), some (.int (v8)), some (.int (v9)), some (.int (w0)), none], [], (hp M J R c e nL xs D)))
    (some (some (.int (v8)), (hp M J R c e nL xs D))) := rfl
set_option maxRecDepth 40000 in
theorem eX1_firstMoment_75 (X : px_X) (M : Nat → Nat → Int32) (J : Nat → Nat → Int64) (R : Nat → Nat → Option Nat) (c e : Nat) (nL : Nat) (xs : Nat → Int32) (D : px_H) (v1 : Int32) (v2 : Int32) (o3 : Option Value) (o4 : Option Value) (v5 : Int32) (v6 : Int32) (v7 : Int32) (v8 : Int32) (v9 : Int32) (v10 : Int32) (o11 : Option Value) : px_run (px_mk (kX1_firstMoment X)) 75 ([some (.ref 32), some (.int (v1)), some (.int (v2)), o3, o4, some (.int (v5)), some (.int (v6)), some (.int (v7)), some (.int (v8)), some (.int (v9)), some (.int (v10)), o11], [], (hp M J R c e nL xs D)) =
    cond (decide (¬ v10 = 5))
    (px_run (px_mk (kX1_firstMoment X)) 85 ([some (.ref 32), some (.int (v1)), some (.int (v2)), none, none, some (.int (v5)), some (.int (v6)), some (.int (v7)), some (.int (v8)), some (.int (v9)), some (.int (v10)), none], [], (hp M J R c e nL xs D)))
    (px_run (px_mk (kX1_firstMoment X)) 86 ([some (.ref 32), some (.int (v1)), some (.int (v2)), none, none, some (.int (v5)), some (.int (v6)), some (.int (v7)), some (.int (v8)), some (.int (v9)), some (.int (v10)), none], [.int (1)], (hp M J R c e nL xs D))) := (px_run_eq _ _ _).trans rfl
set_option maxRecDepth 40000 in
theorem eX1_firstMoment_85 (X : px_X) (M : Nat → Nat → Int32) (J : Nat → Nat → Int64) (R : Nat → Nat → Option Nat) (c e : Nat) (nL : Nat) (xs : Nat → Int32) (D : px_H) (v1 : Int32) (v2 : Int32) (o3 : Option Value) (o4 : Option Value) (v5 : Int32) (v6 : Int32) (v7 : Int32) (v8 : Int32) (v9 : Int32) (o10 : Option Value) (o11 : Option Value) : px_run (px_mk (kX1_firstMoment X)) 85 ([some (.ref 32), some (.int (v1)), some (.int (v2)), o3, o4, some (.int (v5)), some (.int (v6)), some (.int (v7)), some (.int (v8)), some (.int (v9)), o10, o11], [], (hp M J R c e nL xs D)) =
    px_run (px_mk (kX1_firstMoment X)) 86 ([some (.ref 32), some (.int (v1)), some (.int (v2)), none, none, some (.int (v5)), some (.int (v6)), some (.int (v7)), some (.int (v8)), some (.int (v9)), none, none], [.int (0)], (hp M J R c e nL xs D)) := (px_run_eq _ _ _).trans rfl
set_option maxRecDepth 40000 in
theorem eX1_firstMoment_86 (X : px_X) (M : Nat → Nat → Int32) (J : Nat → Nat → Int64) (R : Nat → Nat → Option Nat) (c e : Nat) (nL : Nat) (xs : Nat → Int32) (D : px_H) (v1 : Int32) (v2 : Int32) (o3 : Option Value) (o4 : Option Value) (v5 : Int32) (v6 : Int32) (v7 : Int32) (v8 : Int32) (v9 : Int32) (o10 : Option Value) (o11 : Option Value) (w0 : Int32) : px_run (px_mk (kX1_firstMoment X)) 86 ([some (.ref 32), some (.int (v1)), some (.int (v2)), o3, o4, some (.int (v5)), some (.int (v6)), some (.int (v7)), some (.int (v8)), some (.int (v9)), o10, o11], [.int (w0)], (hp M J R c e nL xs D)) =
    cond (decide (w0 = 0))
    (px_run (px_mk (kX1_firstMoment X)) 108 ([some (.ref 32), some (.int (v1)), some (.int (v2)), none, none, some (.int (v5)), some (.int (v6)), some (.int (v7)), some (.int (v8)), some (.int (v9)), none, some (.int (w0))], [], (hp M J R c e nL xs D)))
    (px_run (px_mk (kX1_firstMoment X)) 120 ([some (.ref 32), some (.int (v1)), some (.int (v2)), none, none, some (.int (v5)), some (.int (v6)), some (.int (v7)), some (.int (v8)), some (.int (v9)), none, some (.int (w0))], [.int ((((v8 / 1440) + 1) * 1440))], (hp M J R c e nL xs D))) := (px_run_eq _ _ _).trans rfl
set_option maxRecDepth 40000 in
theorem eX1_firstMoment_108_7 (X : px_X) (st : px_S) : px_p (kX1_firstMoment X) 108 7 st = px_run (px_mk (kX1_firstMoment X)) 120 st := rfl
set_option maxRecDepth 40000 in
theorem eX1_firstMoment_108 (X : px_X) (M : Nat → Nat → Int32) (J : Nat → Nat → Int64) (R : Nat → Nat → Option Nat) (c e : Nat) (nL : Nat) (xs : Nat → Int32) (D : px_H) (v1 : Int32) (v2 : Int32) (o3 : Option Value) (o4 : Option Value) (v5 : Int32) (v6 : Int32) (v7 : Int32) (v8 : Int32) (v9 : Int32) (o10 : Option Value) (o11 : Option Value) : px_run (px_mk (kX1_firstMoment X)) 108 ([some (.ref 32), some (.int (v1)), some (.int (v2)), o3, o4, some (.int (v5)), some (.int (v6)), some (.int (v7)), some (.int (v8)), some (.int (v9)), o10, o11], [], (hp M J R c e nL xs D)) =
    px_bd (X 20 [.ref 32, .int (v1), .int (v2), .int (v8), .int (v5), .int (v6)] (hp M J R c e nL xs D))
    (fun v G1 => px_p (kX1_firstMoment X) 108 7 ([some (.ref 32), some (.int (v1)), some (.int (v2)), none, none, some (.int (v5)), some (.int (v6)), some (.int (v7)), some (.int (v8)), some (.int (v9)), none, none], px_psh v [], G1)) := (px_run_eq _ _ _).trans rfl
set_option maxRecDepth 40000 in
theorem eX1_firstMoment_120 (X : px_X) (M : Nat → Nat → Int32) (J : Nat → Nat → Int64) (R : Nat → Nat → Option Nat) (c e : Nat) (nL : Nat) (xs : Nat → Int32) (D : px_H) (v1 : Int32) (v2 : Int32) (o3 : Option Value) (o4 : Option Value) (v5 : Int32) (v6 : Int32) (v7 : Int32) (o8 : Option Value) (v9 : Int32) (o10 : Option Value) (o11 : Option Value) (w0 : Int32) : px_run (px_mk (kX1_firstMoment X)) 120 ([some (.ref 32), some (.int (v1)), some (.int (v2)), o3, o4, some (.int (v5)), some (.int (v6)), some (.int (v7)), o8, some (.int (v9)), o10, o11], [.int (w0)], (hp M J R c e nL xs D)) =
    px_run (px_mk (kX1_firstMoment X)) 39 ([some (.ref 32), some (.int (v1)), some (.int (v2)), none, none, some (.int (v5)), some (.int (v6)), some (.int (v7)), some (.int (w0)), some (.int ((v9 + 1))), none, none], [], (hp M J R c e nL xs D)) := (px_run_eq _ _ _).trans rfl
set_option maxRecDepth 40000 in
theorem eX1_pastHindrance_0 (X : px_X) (M : Nat → Nat → Int32) (J : Nat → Nat → Int64) (R : Nat → Nat → Option Nat) (c e : Nat) (nL : Nat) (xs : Nat → Int32) (D : px_H) (v1 : Int32) (v2 : Int32) (v3 : Int32) (v4 : Int32) (v5 : Int32) : px_run (px_mk (kX1_pastHindrance X)) 0 ([some (.ref 32), some (.int (v1)), some (.int (v2)), some (.int (v3)), some (.int (v4)), some (.int (v5)), none, none, none, none], [], (hp M J R c e nL xs D)) =
    px_run (px_mk (kX1_pastHindrance X)) 14 ([some (.ref 32), some (.int (v1)), some (.int (v2)), some (.int (v3)), some (.int (v4)), some (.int (v5)), some (.int ((v3 + 1))), some (.int ((v3 + v4))), some (.int (0)), none], [], (hp M J R c e nL xs D)) := (px_run_eq _ _ _).trans rfl
set_option maxRecDepth 40000 in
theorem eX1_pastHindrance_14 (X : px_X) (M : Nat → Nat → Int32) (J : Nat → Nat → Int64) (R : Nat → Nat → Option Nat) (c e : Nat) (nL : Nat) (xs : Nat → Int32) (D : px_H) (v1 : Int32) (v2 : Int32) (v3 : Int32) (o4 : Option Value) (v5 : Int32) (v6 : Int32) (v7 : Int32) (v8 : Int32) (o9 : Option Value) : px_run (px_mk (kX1_pastHindrance X)) 14 ([some (.ref 32), some (.int (v1)), some (.int (v2)), some (.int (v3)), o4, some (.int (v5)), some (.int (v6)), some (.int (v7)), some (.int (v8)), o9], [], (hp M J R c e nL xs D)) =
    cond (decide (M 32 2 ≤ v8))
    (px_run (px_mk (kX1_pastHindrance X)) 112 ([some (.ref 32), some (.int (v1)), some (.int (v2)), some (.int (v3)), none, some (.int (v5)), some (.int (v6)), some (.int (v7)), some (.int (v8)), none], [], (hp M J R c e nL xs D)))
    (cond (px_inb (v8) 40)
    (px_bo (R 36 (Int32.toNatClampNeg (v8)))
    (px_run (px_mk (kX1_pastHindrance X)) 106 ([some (.ref 32), some (.int (v1)), some (.int (v2)), some (.int (v3)), none, some (.int (v5)), some (.int (v6)), some (.int (v7)), some (.int (v8)), some (.null)], [], (hp M J R c e nL xs D)))
    (fun a => px_p (kX1_pastHindrance X) 14 13 ([some (.ref 32), some (.int (v1)), some (.int (v2)), some (.int (v3)), none, some (.int (v5)), some (.int (v6)), some (.int (v7)), some (.int (v8)), some (.ref (a))], [.int (v1), .ref (a)], (hp M J R c e nL xs D)))) none) := (px_run_eq _ _ _).trans rfl
set_option maxRecDepth 40000 in
theorem eX1_pastHindrance_112 (X : px_X) (M : Nat → Nat → Int32) (J : Nat → Nat → Int64) (R : Nat → Nat → Option Nat) (c e : Nat) (nL : Nat) (xs : Nat → Int32) (D : px_H) (o0 : Option Value) (o1 : Option Value) (o2 : Option Value) (o3 : Option Value) (o4 : Option Value) (o5 : Option Value) (v6 : Int32) (o7 : Option Value) (o8 : Option Value) (o9 : Option Value) : px_run (px_mk (kX1_pastHindrance X)) 112 ([o0, o1, o2, o3, o4, o5, some (.int (v6)), o7, o8, o9], [], (hp M J R c e nL xs D)) =
    some (some (.int (v6)), (hp M J R c e nL xs D)) := (px_run_eq _ _ _).trans rfl
set_option maxRecDepth 40000 in
theorem eX1_pastHindrance_106 (X : px_X) (M : Nat → Nat → Int32) (J : Nat → Nat → Int64) (R : Nat → Nat → Option Nat) (c e : Nat) (nL : Nat) (xs : Nat → Int32) (D : px_H) (v1 : Int32) (v2 : Int32) (v3 : Int32) (o4 : Option Value) (v5 : Int32) (v6 : Int32) (v7 : Int32) (v8 : Int32) (o9 : Option Value) : px_run (px_mk (kX1_pastHindrance X)) 106 ([some (.ref 32), some (.int (v1)), some (.int (v2)), some (.int (v3)), o4, some (.int (v5)), some (.int (v6)), some (.int (v7)), some (.int (v8)), o9], [], (hp M J R c e nL xs D)) =
    px_run (px_mk (kX1_pastHindrance X)) 14 ([some (.ref 32), some (.int (v1)), some (.int (v2)), some (.int (v3)), none, some (.int (v5)), some (.int (v6)), some (.int (v7)), some (.int ((v8 + 1))), none], [], (hp M J R c e nL xs D)) := (px_run_eq _ _ _).trans rfl
set_option maxRecDepth 40000 in
theorem eX1_pastHindrance_14_13 (X : px_X) (G : px_H) (v1 : Int32) (v2 : Int32) (v3 : Int32) (v5 : Int32) (v6 : Int32) (v7 : Int32) (v8 : Int32) (f9 : Nat) (g0 : Nat) (w1 : Int32) : px_p (kX1_pastHindrance X) 14 13 ([some (.ref 32), some (.int (v1)), some (.int (v2)), some (.int (v3)), none, some (.int (v5)), some (.int (v6)), some (.int (v7)), some (.int (v8)), some (.ref (f9))], [.int (w1), .ref (g0)], G) =
    cond (px_isc G (g0) 0)
    (px_bd (X 2 [.ref (g0), .int (w1)] G)
    (fun v G1 => px_p (kX1_pastHindrance X) 14 14 ([some (.ref 32), some (.int (v1)), some (.int (v2)), some (.int (v3)), none, some (.int (v5)), some (.int (v6)), some (.int (v7)), some (.int (v8)), some (.ref (f9))], px_psh v [], G1))) none := px_scallV rfl rfl rfl rfl
set_option maxRecDepth 40000 in
theorem eX1_pastHindrance_14_14 (X : px_X) (M : Nat → Nat → Int32) (J : Nat → Nat → Int64) (R : Nat → Nat → Option Nat) (c e : Nat) (nL : Nat) (xs : Nat → Int32) (D : px_H) (v1 : Int32) (v2 : Int32) (v3 : Int32) (v5 : Int32) (v6 : Int32) (v7 : Int32) (v8 : Int32) (f9 : Nat) (w0 : Int32) : px_p (kX1_pastHindrance X) 14 14 ([some (.ref 32), some (.int (v1)), some (.int (v2)), some (.int (v3)), none, some (.int (v5)), some (.int (v6)), some (.int (v7)), some (.int (v8)), some (.ref (f9))], [.int (w0)], (hp M J R c e nL xs D)) =
    cond (decide (¬ w0 = 0))
    (px_run (px_mk (kX1_pastHindrance X)) 55 ([some (.ref 32), some (.int (v1)), some (.int (v2)), some (.int (v3)), none, some (.int (v5)), some (.int (v6)), some (.int (v7)), some (.int (v8)), some (.ref (f9))], [], (hp M J R c e nL xs D)))
    (px_p (kX1_pastHindrance X) 14 17 ([some (.ref 32), some (.int (v1)), some (.int (v2)), some (.int (v3)), none, some (.int (v5)), some (.int (v6)), some (.int (v7)), some (.int (v8)), some (.ref (f9))], [.int (v2), .ref (f9)], (hp M J R c e nL xs D))) := rfl
set_option maxRecDepth 40000 in
theorem eX1_pastHindrance_55 (X : px_X) (M : Nat → Nat → Int32) (J : Nat → Nat → Int64) (R : Nat → Nat → Option Nat) (c e : Nat) (nL : Nat) (xs : Nat → Int32) (D : px_H) (v1 : Int32) (v2 : Int32) (v3 : Int32) (o4 : Option Value) (v5 : Int32) (v6 : Int32) (v7 : Int32) (v8 : Int32) (f9 : Nat) : px_run (px_mk (kX1_pastHindrance X)) 55 ([some (.ref 32), some (.int (v1)), some (.int (v2)), some (.int (v3)), o4, some (.int (v5)), some (.int (v6)), some (.int (v7)), some (.int (v8)), some (.ref (f9))], [], (hp M J R c e nL xs D)) =
    px_p (kX1_pastHindrance X) 55 3 ([some (.ref 32), some (.int (v1)), some (.int (v2)), some (.int (v3)), none, some (.int (v5)), some (.int (v6)), some (.int (v7)), some (.int (v8)), some (.ref (f9))], [.int (v7), .int (v3), .ref (f9)], (hp M J R c e nL xs D)) := (px_run_eq _ _ _).trans rfl
set_option maxRecDepth 40000 in
theorem eX1_pastHindrance_14_17 (X : px_X) (G : px_H) (v1 : Int32) (v2 : Int32) (v3 : Int32) (v5 : Int32) (v6 : Int32) (v7 : Int32) (v8 : Int32) (f9 : Nat) (g0 : Nat) (w1 : Int32) : px_p (kX1_pastHindrance X) 14 17 ([some (.ref 32), some (.int (v1)), some (.int (v2)), some (.int (v3)), none, some (.int (v5)), some (.int (v6)), some (.int (v7)), some (.int (v8)), some (.ref (f9))], [.int (w1), .ref (g0)], G) =
    cond (px_isc G (g0) 0)
    (px_bd (X 2 [.ref (g0), .int (w1)] G)
    (fun v G1 => px_p (kX1_pastHindrance X) 14 18 ([some (.ref 32), some (.int (v1)), some (.int (v2)), some (.int (v3)), none, some (.int (v5)), some (.int (v6)), some (.int (v7)), some (.int (v8)), some (.ref (f9))], px_psh v [], G1))) none := px_scallV rfl rfl rfl rfl
set_option maxRecDepth 40000 in
theorem eX1_pastHindrance_55_3 (X : px_X) (G : px_H) (v1 : Int32) (v2 : Int32) (v3 : Int32) (v5 : Int32) (v6 : Int32) (v7 : Int32) (v8 : Int32) (f9 : Nat) (g0 : Nat) (w1 : Int32) (w2 : Int32) : px_p (kX1_pastHindrance X) 55 3 ([some (.ref 32), some (.int (v1)), some (.int (v2)), some (.int (v3)), none, some (.int (v5)), some (.int (v6)), some (.int (v7)), some (.int (v8)), some (.ref (f9))], [.int (w2), .int (w1), .ref (g0)], G) =
    cond (px_isc G (g0) 0)
    (px_bd (X 3 [.ref (g0), .int (w1), .int (w2)] G)
    (fun v G1 => px_p (kX1_pastHindrance X) 55 4 ([some (.ref 32), some (.int (v1)), some (.int (v2)), some (.int (v3)), none, some (.int (v5)), some (.int (v6)), some (.int (v7)), some (.int (v8)), some (.ref (f9))], px_psh v [], G1))) none := px_scallV rfl rfl rfl rfl
set_option maxRecDepth 40000 in
theorem eX1_pastHindrance_14_18 (X : px_X) (M : Nat → Nat → Int32) (J : Nat → Nat → Int64) (R : Nat → Nat → Option Nat) (c e : Nat) (nL : Nat) (xs : Nat → Int32) (D : px_H) (v1 : Int32) (v2 : Int32) (v3 : Int32) (v5 : Int32) (v6 : Int32) (v7 : Int32) (v8 : Int32) (f9 : Nat) (w0 : Int32) : px_p (kX1_pastHindrance X) 14 18 ([some (.ref 32), some (.int (v1)), some (.int (v2)), some (.int (v3)), none, some (.int (v5)), some (.int (v6)), some (.int (v7)), some (.int (v8)), some (.ref (f9))], [.int (w0)], (hp M J R c e nL xs D)) =
    cond (decide (w0 = 0))
    (px_run (px_mk (kX1_pastHindrance X)) 106 ([some (.ref 32), some (.int (v1)), some (.int (v2)), some (.int (v3)), none, some (.int (v5)), some (.int (v6)), some (.int (v7)), some (.int (v8)), some (.ref (f9))], [], (hp M J R c e nL xs D)))
    (px_run (px_mk (kX1_pastHindrance X)) 55 ([some (.ref 32), some (.int (v1)), some (.int (v2)), some (.int (v3)), none, some (.int (v5)), some (.int (v6)), some (.int (v7)), some (.int (v8)), some (.ref (f9))], [], (hp M J R c e nL xs D))) := rfl
set_option maxRecDepth 40000 in
theorem eX1_pastHindrance_55_4 (X : px_X) (M : Nat → Nat → Int32) (J : Nat → Nat → Int64) (R : Nat → Nat → Option Nat) (c e : Nat) (nL : Nat) (xs : Nat → Int32) (D : px_H) (v1 : Int32) (v2 : Int32) (v3 : Int32) (v5 : Int32) (v6 : Int32) (v7 : Int32) (v8 : Int32) (f9 : Nat) (w0 : Int32) : px_p (kX1_pastHindrance X) 55 4 ([some (.ref 32), some (.int (v1)), some (.int (v2)), some (.int (v3)), none, some (.int (v5)), some (.int (v6)), some (.int (v7)), some (.int (v8)), some (.ref (f9))], [.int (w0)], (hp M J R c e nL xs D)) =
    cond (decide (¬ w0 = 0))
    (px_run (px_mk (kX1_pastHindrance X)) 80 ([some (.ref 32), some (.int (v1)), some (.int (v2)), some (.int (v3)), none, some (.int (v5)), some (.int (v6)), some (.int (v7)), some (.int (v8)), some (.ref (f9))], [], (hp M J R c e nL xs D)))
    (px_bd (X 15 [.ref 32, .ref (f9), .int (v3), .int (v7), .int (v5)] (hp M J R c e nL xs D))
    (fun v G1 => px_p (kX1_pastHindrance X) 55 11 ([some (.ref 32), some (.int (v1)), some (.int (v2)), some (.int (v3)), none, some (.int (v5)), some (.int (v6)), some (.int (v7)), some (.int (v8)), some (.ref (f9))], px_psh v [], G1))) := rfl
set_option maxRecDepth 40000 in
theorem eX1_pastHindrance_80 (X : px_X) (M : Nat → Nat → Int32) (J : Nat → Nat → Int64) (R : Nat → Nat → Option Nat) (c e : Nat) (nL : Nat) (xs : Nat → Int32) (D : px_H) (v1 : Int32) (v2 : Int32) (v3 : Int32) (o4 : Option Value) (v5 : Int32) (v6 : Int32) (v7 : Int32) (v8 : Int32) (f9 : Nat) : px_run (px_mk (kX1_pastHindrance X)) 80 ([some (.ref 32), some (.int (v1)), some (.int (v2)), some (.int (v3)), o4, some (.int (v5)), some (.int (v6)), some (.int (v7)), some (.int (v8)), some (.ref (f9))], [], (hp M J R c e nL xs D)) =
    px_p (kX1_pastHindrance X) 80 2 ([some (.ref 32), some (.int (v1)), some (.int (v2)), some (.int (v3)), none, some (.int (v5)), some (.int (v6)), some (.int (v7)), some (.int (v8)), some (.ref (f9))], [.ref (f9), .int (v6)], (hp M J R c e nL xs D)) := (px_run_eq _ _ _).trans rfl
set_option maxRecDepth 40000 in
theorem eX1_pastHindrance_55_11 (X : px_X) (M : Nat → Nat → Int32) (J : Nat → Nat → Int64) (R : Nat → Nat → Option Nat) (c e : Nat) (nL : Nat) (xs : Nat → Int32) (D : px_H) (v1 : Int32) (v2 : Int32) (v3 : Int32) (v5 : Int32) (v6 : Int32) (v7 : Int32) (v8 : Int32) (f9 : Nat) (w0 : Int32) : px_p (kX1_pastHindrance X) 55 11 ([some (.ref 32), some (.int (v1)), some (.int (v2)), some (.int (v3)), none, some (.int (v5)), some (.int (v6)), some (.int (v7)), some (.int (v8)), some (.ref (f9))], [.int (w0)], (hp M J R c e nL xs D)) =
    cond (decide (w0 = 0))
    (px_run (px_mk (kX1_pastHindrance X)) 106 ([some (.ref 32), some (.int (v1)), some (.int (v2)), some (.int (v3)), none, some (.int (v5)), some (.int (v6)), some (.int (v7)), some (.int (v8)), some (.ref (f9))], [], (hp M J R c e nL xs D)))
    (px_run (px_mk (kX1_pastHindrance X)) 80 ([some (.ref 32), some (.int (v1)), some (.int (v2)), some (.int (v3)), none, some (.int (v5)), some (.int (v6)), some (.int (v7)), some (.int (v8)), some (.ref (f9))], [], (hp M J R c e nL xs D))) := rfl
set_option maxRecDepth 40000 in
theorem eX1_pastHindrance_80_2 (X : px_X) (G : px_H) (v1 : Int32) (v2 : Int32) (v3 : Int32) (v5 : Int32) (v6 : Int32) (v7 : Int32) (v8 : Int32) (f9 : Nat) (w0 : Int32) (g1 : Nat) : px_p (kX1_pastHindrance X) 80 2 ([some (.ref 32), some (.int (v1)), some (.int (v2)), some (.int (v3)), none, some (.int (v5)), some (.int (v6)), some (.int (v7)), some (.int (v8)), some (.ref (f9))], [.ref (g1), .int (w0)], G) =
    cond (px_isc G (g1) 0)
    (px_bd (X 1 [.ref (g1)] G)
    (fun v G1 => px_p (kX1_pastHindrance X) 80 3 ([some (.ref 32), some (.int (v1)), some (.int (v2)), some (.int (v3)), none, some (.int (v5)), some (.int (v6)), some (.int (v7)), some (.int (v8)), some (.ref (f9))], px_psh v [.int (w0)], G1))) none := px_scallV rfl rfl rfl rfl
set_option maxRecDepth 40000 in
theorem eX1_pastHindrance_80_3 (X : px_X) (M : Nat → Nat → Int32) (J : Nat → Nat → Int64) (R : Nat → Nat → Option Nat) (c e : Nat) (nL : Nat) (xs : Nat → Int32) (D : px_H) (v1 : Int32) (v2 : Int32) (v3 : Int32) (v5 : Int32) (v6 : Int32) (v7 : Int32) (v8 : Int32) (f9 : Nat) (w0 : Int32) (w1 : Int32) : px_p (kX1_pastHindrance X) 80 3 ([some (.ref 32), some (.int (v1)), some (.int (v2)), some (.int (v3)), none, some (.int (v5)), some (.int (v6)), some (.int (v7)), some (.int (v8)), some (.ref (f9))], [.int (w1), .int (w0)], (hp M J R c e nL xs D)) =
    px_p (kX1_pastHindrance X) 80 6 ([some (.ref 32), some (.int (v1)), some (.int (v2)), some (.int (v3)), none, some (.int (v5)), some (.int (v6)), some (.int (v7)), some (.int (v8)), some (.ref (f9))], [.ref (f9), .ref 32, .int (1), .int (w1), .int (w0)], (hp M J R c e nL xs D)) := rfl
set_option maxRecDepth 40000 in
theorem eX1_pastHindrance_80_6 (X : px_X) (G : px_H) (v1 : Int32) (v2 : Int32) (v3 : Int32) (v5 : Int32) (v6 : Int32) (v7 : Int32) (v8 : Int32) (f9 : Nat) (w0 : Int32) (w1 : Int32) (w2 : Int32) (g4 : Nat) : px_p (kX1_pastHindrance X) 80 6 ([some (.ref 32), some (.int (v1)), some (.int (v2)), some (.int (v3)), none, some (.int (v5)), some (.int (v6)), some (.int (v7)), some (.int (v8)), some (.ref (f9))], [.ref (g4), .ref 32, .int (w2), .int (w1), .int (w0)], G) =
    px_vb (px_gf G (g4) 0 3) (fun v => px_p (kX1_pastHindrance X) 80 7 ([some (.ref 32), some (.int (v1)), some (.int (v2)), some (.int (v3)), none, some (.int (v5)), some (.int (v6)), some (.int (v7)), some (.int (v8)), some (.ref (f9))], v :: [.ref 32, .int (w2), .int (w1), .int (w0)], G)) := px_sgetf
set_option maxRecDepth 40000 in
theorem eX1_pastHindrance_80_7 (X : px_X) (M : Nat → Nat → Int32) (J : Nat → Nat → Int64) (R : Nat → Nat → Option Nat) (c e : Nat) (nL : Nat) (xs : Nat → Int32) (D : px_H) (v1 : Int32) (v2 : Int32) (v3 : Int32) (v5 : Int32) (v6 : Int32) (v7 : Int32) (v8 : Int32) (f9 : Nat) (w0 : Int32) (w1 : Int32) (w2 : Int32) (w4 : Int32) : px_p (kX1_pastHindrance X) 80 7 ([some (.ref 32), some (.int (v1)), some (.int (v2)), some (.int (v3)), none, some (.int (v5)), some (.int (v6)), some (.int (v7)), some (.int (v8)), some (.ref (f9))], [.int (w4), .ref 32, .int (w2), .int (w1), .int (w0)], (hp M J R c e nL xs D)) =
    px_bd (X 10 [.ref 32, .int (w4)] (hp M J R c e nL xs D))
    (fun v G1 => px_p (kX1_pastHindrance X) 80 8 ([some (.ref 32), some (.int (v1)), some (.int (v2)), some (.int (v3)), none, some (.int (v5)), some (.int (v6)), some (.int (v7)), some (.int (v8)), some (.ref (f9))], px_psh v [.int (w2), .int (w1), .int (w0)], G1)) := rfl
set_option maxRecDepth 40000 in
theorem eX1_pastHindrance_80_8 (X : px_X) (M : Nat → Nat → Int32) (J : Nat → Nat → Int64) (R : Nat → Nat → Option Nat) (c e : Nat) (nL : Nat) (xs : Nat → Int32) (D : px_H) (v1 : Int32) (v2 : Int32) (v3 : Int32) (v5 : Int32) (v6 : Int32) (v7 : Int32) (v8 : Int32) (f9 : Nat) (w0 : Int32) (w1 : Int32) (w2 : Int32) (w3 : Int32) : px_p (kX1_pastHindrance X) 80 8 ([some (.ref 32), some (.int (v1)), some (.int (v2)), some (.int (v3)), none, some (.int (v5)), some (.int (v6)), some (.int (v7)), some (.int (v8)), some (.ref (f9))], [.int (w3), .int (w2), .int (w1), .int (w0)], (hp M J R c e nL xs D)) =
    px_run (px_mk (kX1_pastHindrance X)) 106 ([some (.ref 32), some (.int (v1)), some (.int (v2)), some (.int (v3)), none, some (.int (v5)), some (.int ((if w0 < (w1 + (if w2 < w3 then w3 else w2)) then (w1 + (if w2 < w3 then w3 else w2)) else w0))), some (.int (v7)), some (.int (v8)), some (.ref (f9))], [], (hp M J R c e nL xs D)) := rfl
