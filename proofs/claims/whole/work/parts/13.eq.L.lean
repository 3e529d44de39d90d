/-! block equations over the fixed layout (written by wip/whole/seg.py) -/
set_option maxRecDepth 40000 in
theorem eL_law_18 (X : px_X) (M : Nat → Nat → Int32) (J : Nat → Nat → Int64) (R : Nat → Nat → Option Nat) (c e : Nat) (nL : Nat) (xs : Nat → Int32) (D : px_H) (v3 : Int32) : px_run (px_mk (kL_law X)) 18 ([some (.ref 0), some (.ref 13), some (.ref 67), some (.int (v3))], [], (hp M J R c e nL xs D)) =
    cond (decide (((Int32.ofNat nL) - 6) < v3))
    (px_run (px_mk (kL_law X)) 1574 ([some (.ref 0), some (.ref 13), some (.ref 67), some (.int (v3))], [], (hp M J R c e nL xs D)))
    (cond (px_inb (v3) nL)
    (cond (decide (((xs (Int32.toNatClampNeg (v3))) &&& 63) = 0))
    (px_run (px_mk (kL_law X)) 208 ([some (.ref 0), some (.ref 13), some (.ref 67), some (.int (v3))], [], (hp M J R c e nL xs D)))
    (cond (decide (((xs (Int32.toNatClampNeg (v3))) &&& 63) = 1))
    (px_run (px_mk (kL_law X)) 267 ([some (.ref 0), some (.ref 13), some (.ref 67), some (.int (v3))], [], (hp M J R c e nL xs D)))
    (cond (decide (((xs (Int32.toNatClampNeg (v3))) &&& 63) = 2))
    (px_run (px_mk (kL_law X)) 310 ([some (.ref 0), some (.ref 13), some (.ref 67), some (.int (v3))], [], (hp M J R c e nL xs D)))
    (cond (decide (((xs (Int32.toNatClampNeg (v3))) &&& 63) = 3))
    (px_run (px_mk (kL_law X)) 353 ([some (.ref 0), some (.ref 13), some (.ref 67), some (.int (v3))], [], (hp M J R c e nL xs D)))
    (cond (decide (((xs (Int32.toNatClampNeg (v3))) &&& 63) = 4))
    (px_run (px_mk (kL_law X)) 376 ([some (.ref 0), some (.ref 13), some (.ref 67), some (.int (v3))], [], (hp M J R c e nL xs D)))
    (cond (decide (((xs (Int32.toNatClampNeg (v3))) &&& 63) = 5))
    (px_run (px_mk (kL_law X)) 410 ([some (.ref 0), some (.ref 13), some (.ref 67), some (.int (v3))], [], (hp M J R c e nL xs D)))
    (cond (decide (((xs (Int32.toNatClampNeg (v3))) &&& 63) = 6))
    (px_run (px_mk (kL_law X)) 444 ([some (.ref 0), some (.ref 13), some (.ref 67), some (.int (v3))], [], (hp M J R c e nL xs D)))
    (cond (decide (((xs (Int32.toNatClampNeg (v3))) &&& 63) = 7))
    (px_run (px_mk (kL_law X)) 458 ([some (.ref 0), some (.ref 13), some (.ref 67), some (.int (v3))], [], (hp M J R c e nL xs D)))
    (cond (decide (((xs (Int32.toNatClampNeg (v3))) &&& 63) = 8))
    (px_run (px_mk (kL_law X)) 511 ([some (.ref 0), some (.ref 13), some (.ref 67), some (.int (v3))], [], (hp M J R c e nL xs D)))
    (cond (decide (((xs (Int32.toNatClampNeg (v3))) &&& 63) = 9))
    (px_run (px_mk (kL_law X)) 544 ([some (.ref 0), some (.ref 13), some (.ref 67), some (.int (v3))], [], (hp M J R c e nL xs D)))
    (cond (decide (((xs (Int32.toNatClampNeg (v3))) &&& 63) = 10))
    (px_run (px_mk (kL_law X)) 577 ([some (.ref 0), some (.ref 13), some (.ref 67), some (.int (v3))], [], (hp M J R c e nL xs D)))
    (cond (decide (((xs (Int32.toNatClampNeg (v3))) &&& 63) = 11))
    (px_run (px_mk (kL_law X)) 610 ([some (.ref 0), some (.ref 13), some (.ref 67), some (.int (v3))], [], (hp M J R c e nL xs D)))
    (cond (decide (((xs (Int32.toNatClampNeg (v3))) &&& 63) = 12))
    (px_run (px_mk (kL_law X)) 643 ([some (.ref 0), some (.ref 13), some (.ref 67), some (.int (v3))], [], (hp M J R c e nL xs D)))
    (cond (decide (((xs (Int32.toNatClampNeg (v3))) &&& 63) = 13))
    (px_run (px_mk (kL_law X)) 686 ([some (.ref 0), some (.ref 13), some (.ref 67), some (.int (v3))], [], (hp M J R c e nL xs D)))
    (cond (decide (((xs (Int32.toNatClampNeg (v3))) &&& 63) = 14))
    (px_run (px_mk (kL_law X)) 729 ([some (.ref 0), some (.ref 13), some (.ref 67), some (.int (v3))], [], (hp M J R c e nL xs D)))
    (cond (decide (((xs (Int32.toNatClampNeg (v3))) &&& 63) = 15))
    (px_run (px_mk (kL_law X)) 762 ([some (.ref 0), some (.ref 13), some (.ref 67), some (.int (v3))], [], (hp M J R c e nL xs D)))
    (cond (decide (((xs (Int32.toNatClampNeg (v3))) &&& 63) = 16))
    (px_run (px_mk (kL_law X)) 775 ([some (.ref 0), some (.ref 13), some (.ref 67), some (.int (v3))], [], (hp M J R c e nL xs D)))
    (cond (decide (((xs (Int32.toNatClampNeg (v3))) &&& 63) = 17))
    (px_run (px_mk (kL_law X)) 818 ([some (.ref 0), some (.ref 13), some (.ref 67), some (.int (v3))], [], (hp M J R c e nL xs D)))
    (cond (decide (((xs (Int32.toNatClampNeg (v3))) &&& 63) = 18))
    (px_run (px_mk (kL_law X)) 881 ([some (.ref 0), some (.ref 13), some (.ref 67), some (.int (v3))], [], (hp M J R c e nL xs D)))
    (cond (decide (((xs (Int32.toNatClampNeg (v3))) &&& 63) = 19))
    (px_run (px_mk (kL_law X)) 894 ([some (.ref 0), some (.ref 13), some (.ref 67), some (.int (v3))], [], (hp M J R c e nL xs D)))
    (cond (decide (((xs (Int32.toNatClampNeg (v3))) &&& 63) = 20))
    (px_run (px_mk (kL_law X)) 927 ([some (.ref 0), some (.ref 13), some (.ref 67), some (.int (v3))], [], (hp M J R c e nL xs D)))
    (cond (decide (((xs (Int32.toNatClampNeg (v3))) &&& 63) = 21))
    (px_run (px_mk (kL_law X)) 990 ([some (.ref 0), some (.ref 13), some (.ref 67), some (.int (v3))], [], (hp M J R c e nL xs D)))
    (cond (decide (((xs (Int32.toNatClampNeg (v3))) &&& 63) = 22))
    (px_run (px_mk (kL_law X)) 1053 ([some (.ref 0), some (.ref 13), some (.ref 67), some (.int (v3))], [], (hp M J R c e nL xs D)))
    (cond (decide (((xs (Int32.toNatClampNeg (v3))) &&& 63) = 23))
    (px_run (px_mk (kL_law X)) 1066 ([some (.ref 0), some (.ref 13), some (.ref 67), some (.int (v3))], [], (hp M J R c e nL xs D)))
    (cond (decide (((xs (Int32.toNatClampNeg (v3))) &&& 63) = 24))
    (px_run (px_mk (kL_law X)) 1110 ([some (.ref 0), some (.ref 13), some (.ref 67), some (.int (v3))], [], (hp M J R c e nL xs D)))
    (cond (decide (((xs (Int32.toNatClampNeg (v3))) &&& 63) = 25))
    (px_run (px_mk (kL_law X)) 1153 ([some (.ref 0), some (.ref 13), some (.ref 67), some (.int (v3))], [], (hp M J R c e nL xs D)))
    (cond (decide (((xs (Int32.toNatClampNeg (v3))) &&& 63) = 26))
    (px_run (px_mk (kL_law X)) 1176 ([some (.ref 0), some (.ref 13), some (.ref 67), some (.int (v3))], [], (hp M J R c e nL xs D)))
    (cond (decide (((xs (Int32.toNatClampNeg (v3))) &&& 63) = 27))
    (px_run (px_mk (kL_law X)) 1199 ([some (.ref 0), some (.ref 13), some (.ref 67), some (.int (v3))], [], (hp M J R c e nL xs D)))
    (cond (decide (((xs (Int32.toNatClampNeg (v3))) &&& 63) = 28))
    (px_run (px_mk (kL_law X)) 1232 ([some (.ref 0), some (.ref 13), some (.ref 67), some (.int (v3))], [], (hp M J R c e nL xs D)))
    (cond (decide (((xs (Int32.toNatClampNeg (v3))) &&& 63) = 29))
    (px_run (px_mk (kL_law X)) 1255 ([some (.ref 0), some (.ref 13), some (.ref 67), some (.int (v3))], [], (hp M J R c e nL xs D)))
    (cond (decide (((xs (Int32.toNatClampNeg (v3))) &&& 63) = 30))
    (px_run (px_mk (kL_law X)) 1268 ([some (.ref 0), some (.ref 13), some (.ref 67), some (.int (v3))], [], (hp M J R c e nL xs D)))
    (cond (decide (((xs (Int32.toNatClampNeg (v3))) &&& 63) = 31))
    (px_run (px_mk (kL_law X)) 1291 ([some (.ref 0), some (.ref 13), some (.ref 67), some (.int (v3))], [], (hp M J R c e nL xs D)))
    (cond (decide (((xs (Int32.toNatClampNeg (v3))) &&& 63) = 32))
    (px_run (px_mk (kL_law X)) 1314 ([some (.ref 0), some (.ref 13), some (.ref 67), some (.int (v3))], [], (hp M J R c e nL xs D)))
    (cond (decide (((xs (Int32.toNatClampNeg (v3))) &&& 63) = 33))
    (px_run (px_mk (kL_law X)) 1337 ([some (.ref 0), some (.ref 13), some (.ref 67), some (.int (v3))], [], (hp M J R c e nL xs D)))
    (cond (decide (((xs (Int32.toNatClampNeg (v3))) &&& 63) = 34))
    (px_run (px_mk (kL_law X)) 1360 ([some (.ref 0), some (.ref 13), some (.ref 67), some (.int (v3))], [], (hp M J R c e nL xs D)))
    (cond (decide (((xs (Int32.toNatClampNeg (v3))) &&& 63) = 35))
    (px_run (px_mk (kL_law X)) 1393 ([some (.ref 0), some (.ref 13), some (.ref 67), some (.int (v3))], [], (hp M J R c e nL xs D)))
    (cond (decide (((xs (Int32.toNatClampNeg (v3))) &&& 63) = 36))
    (px_run (px_mk (kL_law X)) 1416 ([some (.ref 0), some (.ref 13), some (.ref 67), some (.int (v3))], [], (hp M J R c e nL xs D)))
    (cond (decide (((xs (Int32.toNatClampNeg (v3))) &&& 63) = 37))
    (px_run (px_mk (kL_law X)) 1459 ([some (.ref 0), some (.ref 13), some (.ref 67), some (.int (v3))], [], (hp M J R c e nL xs D)))
    (cond (decide (((xs (Int32.toNatClampNeg (v3))) &&& 63) = 38))
    (px_run (px_mk (kL_law X)) 1502 ([some (.ref 0), some (.ref 13), some (.ref 67), some (.int (v3))], [], (hp M J R c e nL xs D)))
    (cond (decide (((xs (Int32.toNatClampNeg (v3))) &&& 63) = 39))
    (px_run (px_mk (kL_law X)) 1535 ([some (.ref 0), some (.ref 13), some (.ref 67), some (.int (v3))], [], (hp M J R c e nL xs D)))
    (px_run (px_mk (kL_law X)) 1568 ([some (.ref 0), some (.ref 13), some (.ref 67), some (.int (v3))], [], (hp M J R c e nL xs D))))))))))))))))))))))))))))))))))))))))))) none) := (px_run_eq _ _ _).trans rfl
set_option maxRecDepth 40000 in
theorem eL_law_1574 (X : px_X) (M : Nat → Nat → Int32) (J : Nat → Nat → Int64) (R : Nat → Nat → Option Nat) (c e : Nat) (nL : Nat) (xs : Nat → Int32) (D : px_H) (o0 : Option Value) (o1 : Option Value) (o2 : Option Value) (o3 : Option Value) : px_run (px_mk (kL_law X)) 1574 ([o0, o1, o2, o3], [], (hp M J R c e nL xs D)) =
    some (some (.int (1)), (hp M J R c e nL xs D)) := (px_run_eq _ _ _).trans rfl
set_option maxRecDepth 40000 in
theorem eL_law_1568 (X : px_X) (M : Nat → Nat → Int32) (J : Nat → Nat → Int64) (R : Nat → Nat → Option Nat) (c e : Nat) (nL : Nat) (xs : Nat → Int32) (D : px_H) (v3 : Int32) : px_run (px_mk (kL_law X)) 1568 ([some (.ref 0), some (.ref 13), some (.ref 67), some (.int (v3))], [], (hp M J R c e nL xs D)) =
    px_run (px_mk (kL_law X)) 18 ([some (.ref 0), some (.ref 13), some (.ref 67), some (.int ((v3 + 6)))], [], (hp M J R c e nL xs D)) := (px_run_eq _ _ _).trans rfl
set_option maxRecDepth 40000 in
theorem eL_law_1535 (X : px_X) (M : Nat → Nat → Int32) (J : Nat → Nat → Int64) (R : Nat → Nat → Option Nat) (c e : Nat) (nL : Nat) (xs : Nat → Int32) (D : px_H) (v3 : Int32) : px_run (px_mk (kL_law X)) 1535 ([some (.ref 0), some (.ref 13), some (.ref 67), some (.int (v3))], [], (hp M J R c e nL xs D)) =
    cond (px_inb ((v3 + 1)) nL)
    (cond (px_inb ((v3 + 2)) nL)
    (px_bd (X 163 [.ref 13, .int ((xs (Int32.toNatClampNeg ((v3 + 1))))), .int ((xs (Int32.toNatClampNeg ((v3 + 2)))))] (hp M J R c e nL xs D))
    (fun v G1 => px_p (kL_law X) 1535 12 ([some (.ref 0), some (.ref 13), some (.ref 67), some (.int (v3))], px_psh v [], G1))) none) none := (px_run_eq _ _ _).trans rfl
set_option maxRecDepth 40000 in
theorem eL_law_1502 (X : px_X) (M : Nat → Nat → Int32) (J : Nat → Nat → Int64) (R : Nat → Nat → Option Nat) (c e : Nat) (nL : Nat) (xs : Nat → Int32) (D : px_H) (v3 : Int32) : px_run (px_mk (kL_law X)) 1502 ([some (.ref 0), some (.ref 13), some (.ref 67), some (.int (v3))], [], (hp M J R c e nL xs D)) =
    cond (px_inb ((v3 + 1)) nL)
    (cond (px_inb ((v3 + 2)) nL)
    (px_bd (X 162 [.ref 13, .int ((xs (Int32.toNatClampNeg ((v3 + 1))))), .int ((xs (Int32.toNatClampNeg ((v3 + 2)))))] (hp M J R c e nL xs D))
    (fun v G1 => px_p (kL_law X) 1502 12 ([some (.ref 0), some (.ref 13), some (.ref 67), some (.int (v3))], px_psh v [], G1))) none) none := (px_run_eq _ _ _).trans rfl
set_option maxRecDepth 40000 in
theorem eL_law_1459 (X : px_X) (M : Nat → Nat → Int32) (J : Nat → Nat → Int64) (R : Nat → Nat → Option Nat) (c e : Nat) (nL : Nat) (xs : Nat → Int32) (D : px_H) (v3 : Int32) : px_run (px_mk (kL_law X)) 1459 ([some (.ref 0), some (.ref 13), some (.ref 67), some (.int (v3))], [], (hp M J R c e nL xs D)) =
    cond (px_inb ((v3 + 1)) nL)
    (cond (px_inb ((v3 + 2)) nL)
    (cond (px_inb ((v3 + 3)) nL)
    (px_bd (X 161 [.ref 13, .int ((xs (Int32.toNatClampNeg ((v3 + 1))))), .int ((xs (Int32.toNatClampNeg ((v3 + 2))))), .int ((xs (Int32.toNatClampNeg ((v3 + 3)))))] (hp M J R c e nL xs D))
    (fun v G1 => px_p (kL_law X) 1459 17 ([some (.ref 0), some (.ref 13), some (.ref 67), some (.int (v3))], px_psh v [], G1))) none) none) none := (px_run_eq _ _ _).trans rfl
set_option maxRecDepth 40000 in
theorem eL_law_1416 (X : px_X) (M : Nat → Nat → Int32) (J : Nat → Nat → Int64) (R : Nat → Nat → Option Nat) (c e : Nat) (nL : Nat) (xs : Nat → Int32) (D : px_H) (v3 : Int32) : px_run (px_mk (kL_law X)) 1416 ([some (.ref 0), some (.ref 13), some (.ref 67), some (.int (v3))], [], (hp M J R c e nL xs D)) =
    cond (px_inb ((v3 + 1)) nL)
    (cond (px_inb ((v3 + 2)) nL)
    (cond (px_inb ((v3 + 3)) nL)
    (px_bd (X 160 [.ref 13, .int ((xs (Int32.toNatClampNeg ((v3 + 1))))), .int ((xs (Int32.toNatClampNeg ((v3 + 2))))), .int ((xs (Int32.toNatClampNeg ((v3 + 3)))))] (hp M J R c e nL xs D))
    (fun v G1 => px_p (kL_law X) 1416 17 ([some (.ref 0), some (.ref 13), some (.ref 67), some (.int (v3))], px_psh v [], G1))) none) none) none := (px_run_eq _ _ _).trans rfl
set_option maxRecDepth 40000 in
theorem eL_law_1393 (X : px_X) (M : Nat → Nat → Int32) (J : Nat → Nat → Int64) (R : Nat → Nat → Option Nat) (c e : Nat) (nL : Nat) (xs : Nat → Int32) (D : px_H) (v3 : Int32) : px_run (px_mk (kL_law X)) 1393 ([some (.ref 0), some (.ref 13), some (.ref 67), some (.int (v3))], [], (hp M J R c e nL xs D)) =
    cond (px_inb ((v3 + 1)) nL)
    (px_bd (X 159 [.ref 13, .int ((xs (Int32.toNatClampNeg ((v3 + 1)))))] (hp M J R c e nL xs D))
    (fun v G1 => px_p (kL_law X) 1393 7 ([some (.ref 0), some (.ref 13), some (.ref 67), some (.int (v3))], px_psh v [], G1))) none := (px_run_eq _ _ _).trans rfl
set_option maxRecDepth 40000 in
theorem eL_law_1360 (X : px_X) (M : Nat → Nat → Int32) (J : Nat → Nat → Int64) (R : Nat → Nat → Option Nat) (c e : Nat) (nL : Nat) (xs : Nat → Int32) (D : px_H) (v3 : Int32) : px_run (px_mk (kL_law X)) 1360 ([some (.ref 0), some (.ref 13), some (.ref 67), some (.int (v3))], [], (hp M J R c e nL xs D)) =
    cond (px_inb ((v3 + 1)) nL)
    (cond (px_inb ((v3 + 2)) nL)
    (px_bd (X 158 [.ref 13, .int ((xs (Int32.toNatClampNeg ((v3 + 1))))), .int ((xs (Int32.toNatClampNeg ((v3 + 2)))))] (hp M J R c e nL xs D))
    (fun v G1 => px_p (kL_law X) 1360 12 ([some (.ref 0), some (.ref 13), some (.ref 67), some (.int (v3))], px_psh v [], G1))) none) none := (px_run_eq _ _ _).trans rfl
set_option maxRecDepth 40000 in
theorem eL_law_1337 (X : px_X) (M : Nat → Nat → Int32) (J : Nat → Nat → Int64) (R : Nat → Nat → Option Nat) (c e : Nat) (nL : Nat) (xs : Nat → Int32) (D : px_H) (v3 : Int32) : px_run (px_mk (kL_law X)) 1337 ([some (.ref 0), some (.ref 13), some (.ref 67), some (.int (v3))], [], (hp M J R c e nL xs D)) =
    cond (px_inb ((v3 + 1)) nL)
    (px_bd (X 157 [.ref 13, .int ((xs (Int32.toNatClampNeg ((v3 + 1)))))] (hp M J R c e nL xs D))
    (fun v G1 => px_p (kL_law X) 1337 7 ([some (.ref 0), some (.ref 13), some (.ref 67), some (.int (v3))], px_psh v [], G1))) none := (px_run_eq _ _ _).trans rfl
set_option maxRecDepth 40000 in
theorem eL_law_1314 (X : px_X) (M : Nat → Nat → Int32) (J : Nat → Nat → Int64) (R : Nat → Nat → Option Nat) (c e : Nat) (nL : Nat) (xs : Nat → Int32) (D : px_H) (v3 : Int32) : px_run (px_mk (kL_law X)) 1314 ([some (.ref 0), some (.ref 13), some (.ref 67), some (.int (v3))], [], (hp M J R c e nL xs D)) =
    cond (px_inb ((v3 + 1)) nL)
    (px_bd (X 156 [.ref 13, .int ((xs (Int32.toNatClampNeg ((v3 + 1)))))] (hp M J R c e nL xs D))
    (fun v G1 => px_p (kL_law X) 1314 7 ([some (.ref 0), some (.ref 13), some (.ref 67), some (.int (v3))], px_psh v [], G1))) none := (px_run_eq _ _ _).trans rfl
set_option maxRecDepth 40000 in
theorem eL_law_1291 (X : px_X) (M : Nat → Nat → Int32) (J : Nat → Nat → Int64) (R : Nat → Nat → Option Nat) (c e : Nat) (nL : Nat) (xs : Nat → Int32) (D : px_H) (v3 : Int32) : px_run (px_mk (kL_law X)) 1291 ([some (.ref 0), some (.ref 13), some (.ref 67), some (.int (v3))], [], (hp M J R c e nL xs D)) =
    cond (px_inb ((v3 + 1)) nL)
    (px_bd (X 155 [.ref 13, .int ((xs (Int32.toNatClampNeg ((v3 + 1)))))] (hp M J R c e nL xs D))
    (fun v G1 => px_p (kL_law X) 1291 7 ([some (.ref 0), some (.ref 13), some (.ref 67), some (.int (v3))], px_psh v [], G1))) none := (px_run_eq _ _ _).trans rfl
set_option maxRecDepth 40000 in
theorem eL_law_1268 (X : px_X) (M : Nat → Nat → Int32) (J : Nat → Nat → Int64) (R : Nat → Nat → Option Nat) (c e : Nat) (nL : Nat) (xs : Nat → Int32) (D : px_H) (v3 : Int32) : px_run (px_mk (kL_law X)) 1268 ([some (.ref 0), some (.ref 13), some (.ref 67), some (.int (v3))], [], (hp M J R c e nL xs D)) =
    cond (px_inb ((v3 + 1)) nL)
    (px_bd (X 154 [.ref 13, .int ((xs (Int32.toNatClampNeg ((v3 + 1)))))] (hp M J R c e nL xs D))
    (fun v G1 => px_p (kL_law X) 1268 7 ([some (.ref 0), some (.ref 13), some (.ref 67), some (.int (v3))], px_psh v [], G1))) none := (px_run_eq _ _ _).trans rfl
set_option maxRecDepth 40000 in
theorem eL_law_1255 (X : px_X) (M : Nat → Nat → Int32) (J : Nat → Nat → Int64) (R : Nat → Nat → Option Nat) (c e : Nat) (nL : Nat) (xs : Nat → Int32) (D : px_H) (v3 : Int32) : px_run (px_mk (kL_law X)) 1255 ([some (.ref 0), some (.ref 13), some (.ref 67), some (.int (v3))], [], (hp M J R c e nL xs D)) =
    px_bd (X 153 [.ref 13] (hp M J R c e nL xs D))
    (fun v G1 => px_p (kL_law X) 1255 2 ([some (.ref 0), some (.ref 13), some (.ref 67), some (.int (v3))], px_psh v [], G1)) := (px_run_eq _ _ _).trans rfl
set_option maxRecDepth 40000 in
theorem eL_law_1232 (X : px_X) (M : Nat → Nat → Int32) (J : Nat → Nat → Int64) (R : Nat → Nat → Option Nat) (c e : Nat) (nL : Nat) (xs : Nat → Int32) (D : px_H) (v3 : Int32) : px_run (px_mk (kL_law X)) 1232 ([some (.ref 0), some (.ref 13), some (.ref 67), some (.int (v3))], [], (hp M J R c e nL xs D)) =
    cond (px_inb ((v3 + 1)) nL)
    (px_bd (X 152 [.ref 13, .int ((xs (Int32.toNatClampNeg ((v3 + 1)))))] (hp M J R c e nL xs D))
    (fun v G1 => px_p (kL_law X) 1232 7 ([some (.ref 0), some (.ref 13), some (.ref 67), some (.int (v3))], px_psh v [], G1))) none := (px_run_eq _ _ _).trans rfl
set_option maxRecDepth 40000 in
theorem eL_law_1199 (X : px_X) (M : Nat → Nat → Int32) (J : Nat → Nat → Int64) (R : Nat → Nat → Option Nat) (c e : Nat) (nL : Nat) (xs : Nat → Int32) (D : px_H) (v3 : Int32) : px_run (px_mk (kL_law X)) 1199 ([some (.ref 0), some (.ref 13), some (.ref 67), some (.int (v3))], [], (hp M J R c e nL xs D)) =
    cond (px_inb ((v3 + 1)) nL)
    (cond (px_inb ((v3 + 2)) nL)
    (px_bd (X 151 [.ref 13, .int ((xs (Int32.toNatClampNeg ((v3 + 1))))), .int ((xs (Int32.toNatClampNeg ((v3 + 2)))))] (hp M J R c e nL xs D))
    (fun v G1 => px_p (kL_law X) 1199 12 ([some (.ref 0), some (.ref 13), some (.ref 67), some (.int (v3))], px_psh v [], G1))) none) none := (px_run_eq _ _ _).trans rfl
set_option maxRecDepth 40000 in
theorem eL_law_1176 (X : px_X) (M : Nat → Nat → Int32) (J : Nat → Nat → Int64) (R : Nat → Nat → Option Nat) (c e : Nat) (nL : Nat) (xs : Nat → Int32) (D : px_H) (v3 : Int32) : px_run (px_mk (kL_law X)) 1176 ([some (.ref 0), some (.ref 13), some (.ref 67), some (.int (v3))], [], (hp M J R c e nL xs D)) =
    cond (px_inb ((v3 + 1)) nL)
    (px_bd (X 150 [.ref 13, .int ((xs (Int32.toNatClampNeg ((v3 + 1)))))] (hp M J R c e nL xs D))
    (fun v G1 => px_p (kL_law X) 1176 7 ([some (.ref 0), some (.ref 13), some (.ref 67), some (.int (v3))], px_psh v [], G1))) none := (px_run_eq _ _ _).trans rfl
set_option maxRecDepth 40000 in
theorem eL_law_1153 (X : px_X) (M : Nat → Nat → Int32) (J : Nat → Nat → Int64) (R : Nat → Nat → Option Nat) (c e : Nat) (nL : Nat) (xs : Nat → Int32) (D : px_H) (v3 : Int32) : px_run (px_mk (kL_law X)) 1153 ([some (.ref 0), some (.ref 13), some (.ref 67), some (.int (v3))], [], (hp M J R c e nL xs D)) =
    cond (px_inb ((v3 + 1)) nL)
    (px_bd (X 149 [.ref 13, .int ((xs (Int32.toNatClampNeg ((v3 + 1)))))] (hp M J R c e nL xs D))
    (fun v G1 => px_p (kL_law X) 1153 7 ([some (.ref 0), some (.ref 13), some (.ref 67), some (.int (v3))], px_psh v [], G1))) none := (px_run_eq _ _ _).trans rfl
set_option maxRecDepth 40000 in
theorem eL_law_1110 (X : px_X) (M : Nat → Nat → Int32) (J : Nat → Nat → Int64) (R : Nat → Nat → Option Nat) (c e : Nat) (nL : Nat) (xs : Nat → Int32) (D : px_H) (v3 : Int32) : px_run (px_mk (kL_law X)) 1110 ([some (.ref 0), some (.ref 13), some (.ref 67), some (.int (v3))], [], (hp M J R c e nL xs D)) =
    cond (px_inb ((v3 + 1)) nL)
    (cond (px_inb ((v3 + 2)) nL)
    (cond (px_inb ((v3 + 3)) nL)
    (px_bd (X 148 [.ref 13, .int ((xs (Int32.toNatClampNeg ((v3 + 1))))), .int ((xs (Int32.toNatClampNeg ((v3 + 2))))), .int ((xs (Int32.toNatClampNeg ((v3 + 3)))))] (hp M J R c e nL xs D))
    (fun v G1 => px_p (kL_law X) 1110 17 ([some (.ref 0), some (.ref 13), some (.ref 67), some (.int (v3))], px_psh v [], G1))) none) none) none := (px_run_eq _ _ _).trans rfl
set_option maxRecDepth 40000 in
theorem eL_law_1066 (X : px_X) (M : Nat → Nat → Int32) (J : Nat → Nat → Int64) (R : Nat → Nat → Option Nat) (c e : Nat) (nL : Nat) (xs : Nat → Int32) (D : px_H) (v3 : Int32) : px_run (px_mk (kL_law X)) 1066 ([some (.ref 0), some (.ref 13), some (.ref 67), some (.int (v3))], [], (hp M J R c e nL xs D)) =
    cond (px_inb ((v3 + 1)) nL)
    (cond (px_inb ((v3 + 2)) nL)
    (cond (px_inb ((v3 + 3)) nL)
    (px_bd (X 147 [.ref 13, .int ((xs (Int32.toNatClampNeg ((v3 + 1))))), .int ((xs (Int32.toNatClampNeg ((v3 + 2))))), .int ((xs (Int32.toNatClampNeg ((v3 + 3)))))] (hp M J R c e nL xs D))
    (fun v G1 => px_p (kL_law X) 1066 17 ([some (.ref 0), some (.ref 13), some (.ref 67), some (.int (v3))], px_psh v [], G1))) none) none) none := (px_run_eq _ _ _).trans rfl
set_option maxRecDepth 40000 in
theorem eL_law_1053 (X : px_X) (M : Nat → Nat → Int32) (J : Nat → Nat → Int64) (R : Nat → Nat → Option Nat) (c e : Nat) (nL : Nat) (xs : Nat → Int32) (D : px_H) (v3 : Int32) : px_run (px_mk (kL_law X)) 1053 ([some (.ref 0), some (.ref 13), some (.ref 67), some (.int (v3))], [], (hp M J R c e nL xs D)) =
    px_bd (X 146 [.ref 13] (hp M J R c e nL xs D))
    (fun v G1 => px_p (kL_law X) 1053 2 ([some (.ref 0), some (.ref 13), some (.ref 67), some (.int (v3))], px_psh v [], G1)) := (px_run_eq _ _ _).trans rfl
set_option maxRecDepth 40000 in
theorem eL_law_990 (X : px_X) (M : Nat → Nat → Int32) (J : Nat → Nat → Int64) (R : Nat → Nat → Option Nat) (c e : Nat) (nL : Nat) (xs : Nat → Int32) (D : px_H) (v3 : Int32) : px_run (px_mk (kL_law X)) 990 ([some (.ref 0), some (.ref 13), some (.ref 67), some (.int (v3))], [], (hp M J R c e nL xs D)) =
    cond (px_inb ((v3 + 1)) nL)
    (cond (px_inb ((v3 + 2)) nL)
    (cond (px_inb ((v3 + 3)) nL)
    (px_bd (X 145 [.ref 13, .int ((xs (Int32.toNatClampNeg ((v3 + 1))))), .long ((((Int32.toInt64 (xs (Int32.toNatClampNeg ((v3 + 2))))) <<< (Int32.toInt64 (32) &&& 63)) ||| ((Int32.toInt64 (xs (Int32.toNatClampNeg ((v3 + 3))))) &&& 4294967295)))] (hp M J R c e nL xs D))
    (fun v G1 => px_p (kL_law X) 990 24 ([some (.ref 0), some (.ref 13), some (.ref 67), some (.int (v3))], px_psh v [], G1))) none) none) none := (px_run_eq _ _ _).trans rfl
set_option maxRecDepth 40000 in
theorem eL_law_927 (X : px_X) (M : Nat → Nat → Int32) (J : Nat → Nat → Int64) (R : Nat → Nat → Option Nat) (c e : Nat) (nL : Nat) (xs : Nat → Int32) (D : px_H) (v3 : Int32) : px_run (px_mk (kL_law X)) 927 ([some (.ref 0), some (.ref 13), some (.ref 67), some (.int (v3))], [], (hp M J R c e nL xs D)) =
    cond (px_inb ((v3 + 1)) nL)
    (cond (px_inb ((v3 + 2)) nL)
    (cond (px_inb ((v3 + 3)) nL)
    (cond (px_inb ((v3 + 4)) nL)
    (cond (px_inb ((v3 + 5)) nL)
    (px_bd (X 144 [.ref 13, .int ((xs (Int32.toNatClampNeg ((v3 + 1))))), .int ((xs (Int32.toNatClampNeg ((v3 + 2))))), .int ((xs (Int32.toNatClampNeg ((v3 + 3))))), .int ((xs (Int32.toNatClampNeg ((v3 + 4))))), .int ((xs (Int32.toNatClampNeg ((v3 + 5)))))] (hp M J R c e nL xs D))
    (fun v G1 => px_p (kL_law X) 927 27 ([some (.ref 0), some (.ref 13), some (.ref 67), some (.int (v3))], px_psh v [], G1))) none) none) none) none) none := (px_run_eq _ _ _).trans rfl
set_option maxRecDepth 40000 in
theorem eL_law_894 (X : px_X) (M : Nat → Nat → Int32) (J : Nat → Nat → Int64) (R : Nat → Nat → Option Nat) (c e : Nat) (nL : Nat) (xs : Nat → Int32) (D : px_H) (v3 : Int32) : px_run (px_mk (kL_law X)) 894 ([some (.ref 0), some (.ref 13), some (.ref 67), some (.int (v3))], [], (hp M J R c e nL xs D)) =
    cond (px_inb ((v3 + 1)) nL)
    (cond (px_inb ((v3 + 2)) nL)
    (px_bd (X 143 [.ref 13, .int ((xs (Int32.toNatClampNeg ((v3 + 1))))), .int ((xs (Int32.toNatClampNeg ((v3 + 2)))))] (hp M J R c e nL xs D))
    (fun v G1 => px_p (kL_law X) 894 12 ([some (.ref 0), some (.ref 13), some (.ref 67), some (.int (v3))], px_psh v [], G1))) none) none := (px_run_eq _ _ _).trans rfl
set_option maxRecDepth 40000 in
theorem eL_law_881 (X : px_X) (M : Nat → Nat → Int32) (J : Nat → Nat → Int64) (R : Nat → Nat → Option Nat) (c e : Nat) (nL : Nat) (xs : Nat → Int32) (D : px_H) (v3 : Int32) : px_run (px_mk (kL_law X)) 881 ([some (.ref 0), some (.ref 13), some (.ref 67), some (.int (v3))], [], (hp M J R c e nL xs D)) =
    px_bd (X 142 [.ref 13] (hp M J R c e nL xs D))
    (fun v G1 => px_p (kL_law X) 881 2 ([some (.ref 0), some (.ref 13), some (.ref 67), some (.int (v3))], px_psh v [], G1)) := (px_run_eq _ _ _).trans rfl
set_option maxRecDepth 40000 in
theorem eL_law_818 (X : px_X) (M : Nat → Nat → Int32) (J : Nat → Nat → Int64) (R : Nat → Nat → Option Nat) (c e : Nat) (nL : Nat) (xs : Nat → Int32) (D : px_H) (v3 : Int32) : px_run (px_mk (kL_law X)) 818 ([some (.ref 0), some (.ref 13), some (.ref 67), some (.int (v3))], [], (hp M J R c e nL xs D)) =
    cond (px_inb ((v3 + 1)) nL)
    (cond (px_inb ((v3 + 2)) nL)
    (cond (px_inb ((v3 + 3)) nL)
    (cond (px_inb ((v3 + 4)) nL)
    (cond (px_inb ((v3 + 5)) nL)
    (px_bd (X 141 [.ref 13, .int ((xs (Int32.toNatClampNeg ((v3 + 1))))), .int ((xs (Int32.toNatClampNeg ((v3 + 2))))), .int ((xs (Int32.toNatClampNeg ((v3 + 3))))), .int ((xs (Int32.toNatClampNeg ((v3 + 4))))), .int ((xs (Int32.toNatClampNeg ((v3 + 5)))))] (hp M J R c e nL xs D))
    (fun v G1 => px_p (kL_law X) 818 27 ([some (.ref 0), some (.ref 13), some (.ref 67), some (.int (v3))], px_psh v [], G1))) none) none) none) none) none := (px_run_eq _ _ _).trans rfl
set_option maxRecDepth 40000 in
theorem eL_law_775 (X : px_X) (M : Nat → Nat → Int32) (J : Nat → Nat → Int64) (R : Nat → Nat → Option Nat) (c e : Nat) (nL : Nat) (xs : Nat → Int32) (D : px_H) (v3 : Int32) : px_run (px_mk (kL_law X)) 775 ([some (.ref 0), some (.ref 13), some (.ref 67), some (.int (v3))], [], (hp M J R c e nL xs D)) =
    cond (px_inb ((v3 + 1)) nL)
    (cond (px_inb ((v3 + 2)) nL)
    (cond (px_inb ((v3 + 3)) nL)
    (px_bd (X 140 [.ref 13, .int ((xs (Int32.toNatClampNeg ((v3 + 1))))), .int ((xs (Int32.toNatClampNeg ((v3 + 2))))), .int ((xs (Int32.toNatClampNeg ((v3 + 3)))))] (hp M J R c e nL xs D))
    (fun v G1 => px_p (kL_law X) 775 17 ([some (.ref 0), some (.ref 13), some (.ref 67), some (.int (v3))], px_psh v [], G1))) none) none) none := (px_run_eq _ _ _).trans rfl
set_option maxRecDepth 40000 in
theorem eL_law_762 (X : px_X) (M : Nat → Nat → Int32) (J : Nat → Nat → Int64) (R : Nat → Nat → Option Nat) (c e : Nat) (nL : Nat) (xs : Nat → Int32) (D : px_H) (v3 : Int32) : px_run (px_mk (kL_law X)) 762 ([some (.ref 0), some (.ref 13), some (.ref 67), some (.int (v3))], [], (hp M J R c e nL xs D)) =
    px_bd (X 139 [.ref 13] (hp M J R c e nL xs D))
    (fun v G1 => px_p (kL_law X) 762 2 ([some (.ref 0), some (.ref 13), some (.ref 67), some (.int (v3))], px_psh v [], G1)) := (px_run_eq _ _ _).trans rfl
set_option maxRecDepth 40000 in
theorem eL_law_729 (X : px_X) (M : Nat → Nat → Int32) (J : Nat → Nat → Int64) (R : Nat → Nat → Option Nat) (c e : Nat) (nL : Nat) (xs : Nat → Int32) (D : px_H) (v3 : Int32) : px_run (px_mk (kL_law X)) 729 ([some (.ref 0), some (.ref 13), some (.ref 67), some (.int (v3))], [], (hp M J R c e nL xs D)) =
    cond (px_inb ((v3 + 1)) nL)
    (cond (px_inb ((v3 + 2)) nL)
    (px_bd (X 138 [.ref 13, .int ((xs (Int32.toNatClampNeg ((v3 + 1))))), .int ((xs (Int32.toNatClampNeg ((v3 + 2)))))] (hp M J R c e nL xs D))
    (fun v G1 => px_p (kL_law X) 729 12 ([some (.ref 0), some (.ref 13), some (.ref 67), some (.int (v3))], px_psh v [], G1))) none) none := (px_run_eq _ _ _).trans rfl
set_option maxRecDepth 40000 in
theorem eL_law_686 (X : px_X) (M : Nat → Nat → Int32) (J : Nat → Nat → Int64) (R : Nat → Nat → Option Nat) (c e : Nat) (nL : Nat) (xs : Nat → Int32) (D : px_H) (v3 : Int32) : px_run (px_mk (kL_law X)) 686 ([some (.ref 0), some (.ref 13), some (.ref 67), some (.int (v3))], [], (hp M J R c e nL xs D)) =
    cond (px_inb ((v3 + 1)) nL)
    (cond (px_inb ((v3 + 2)) nL)
    (cond (px_inb ((v3 + 3)) nL)
    (px_bd (X 135 [.ref 13, .int ((xs (Int32.toNatClampNeg ((v3 + 1))))), .int ((xs (Int32.toNatClampNeg ((v3 + 2))))), .int ((xs (Int32.toNatClampNeg ((v3 + 3)))))] (hp M J R c e nL xs D))
    (fun v G1 => px_p (kL_law X) 686 17 ([some (.ref 0), some (.ref 13), some (.ref 67), some (.int (v3))], px_psh v [], G1))) none) none) none := (px_run_eq _ _ _).trans rfl
set_option maxRecDepth 40000 in
theorem eL_law_643 (X : px_X) (M : Nat → Nat → Int32) (J : Nat → Nat → Int64) (R : Nat → Nat → Option Nat) (c e : Nat) (nL : Nat) (xs : Nat → Int32) (D : px_H) (v3 : Int32) : px_run (px_mk (kL_law X)) 643 ([some (.ref 0), some (.ref 13), some (.ref 67), some (.int (v3))], [], (hp M J R c e nL xs D)) =
    cond (px_inb ((v3 + 1)) nL)
    (cond (px_inb ((v3 + 2)) nL)
    (cond (px_inb ((v3 + 3)) nL)
    (px_bd (X 134 [.ref 13, .int ((xs (Int32.toNatClampNeg ((v3 + 1))))), .int ((xs (Int32.toNatClampNeg ((v3 + 2))))), .int ((xs (Int32.toNatClampNeg ((v3 + 3)))))] (hp M J R c e nL xs D))
    (fun v G1 => px_p (kL_law X) 643 17 ([some (.ref 0), some (.ref 13), some (.ref 67), some (.int (v3))], px_psh v [], G1))) none) none) none := (px_run_eq _ _ _).trans rfl
set_option maxRecDepth 40000 in
theorem eL_law_610 (X : px_X) (M : Nat → Nat → Int32) (J : Nat → Nat → Int64) (R : Nat → Nat → Option Nat) (c e : Nat) (nL : Nat) (xs : Nat → Int32) (D : px_H) (v3 : Int32) : px_run (px_mk (kL_law X)) 610 ([some (.ref 0), some (.ref 13), some (.ref 67), some (.int (v3))], [], (hp M J R c e nL xs D)) =
    cond (px_inb ((v3 + 1)) nL)
    (cond (px_inb ((v3 + 2)) nL)
    (px_bd (X 133 [.ref 13, .int ((xs (Int32.toNatClampNeg ((v3 + 1))))), .int ((xs (Int32.toNatClampNeg ((v3 + 2)))))] (hp M J R c e nL xs D))
    (fun v G1 => px_p (kL_law X) 610 12 ([some (.ref 0), some (.ref 13), some (.ref 67), some (.int (v3))], px_psh v [], G1))) none) none := (px_run_eq _ _ _).trans rfl
set_option maxRecDepth 40000 in
theorem eL_law_577 (X : px_X) (M : Nat → Nat → Int32) (J : Nat → Nat → Int64) (R : Nat → Nat → Option Nat) (c e : Nat) (nL : Nat) (xs : Nat → Int32) (D : px_H) (v3 : Int32) : px_run (px_mk (kL_law X)) 577 ([some (.ref 0), some (.ref 13), some (.ref 67), some (.int (v3))], [], (hp M J R c e nL xs D)) =
    cond (px_inb ((v3 + 1)) nL)
    (cond (px_inb ((v3 + 2)) nL)
    (px_bd (X 132 [.ref 13, .int ((xs (Int32.toNatClampNeg ((v3 + 1))))), .int ((xs (Int32.toNatClampNeg ((v3 + 2)))))] (hp M J R c e nL xs D))
    (fun v G1 => px_p (kL_law X) 577 12 ([some (.ref 0), some (.ref 13), some (.ref 67), some (.int (v3))], px_psh v [], G1))) none) none := (px_run_eq _ _ _).trans rfl
set_option maxRecDepth 40000 in
theorem eL_law_544 (X : px_X) (M : Nat → Nat → Int32) (J : Nat → Nat → Int64) (R : Nat → Nat → Option Nat) (c e : Nat) (nL : Nat) (xs : Nat → Int32) (D : px_H) (v3 : Int32) : px_run (px_mk (kL_law X)) 544 ([some (.ref 0), some (.ref 13), some (.ref 67), some (.int (v3))], [], (hp M J R c e nL xs D)) =
    cond (px_inb ((v3 + 1)) nL)
    (cond (px_inb ((v3 + 2)) nL)
    (px_bd (X 131 [.ref 13, .int ((xs (Int32.toNatClampNeg ((v3 + 1))))), .int ((xs (Int32.toNatClampNeg ((v3 + 2)))))] (hp M J R c e nL xs D))
    (fun v G1 => px_p (kL_law X) 544 12 ([some (.ref 0), some (.ref 13), some (.ref 67), some (.int (v3))], px_psh v [], G1))) none) none := (px_run_eq _ _ _).trans rfl
set_option maxRecDepth 40000 in
theorem eL_law_511 (X : px_X) (M : Nat → Nat → Int32) (J : Nat → Nat → Int64) (R : Nat → Nat → Option Nat) (c e : Nat) (nL : Nat) (xs : Nat → Int32) (D : px_H) (v3 : Int32) : px_run (px_mk (kL_law X)) 511 ([some (.ref 0), some (.ref 13), some (.ref 67), some (.int (v3))], [], (hp M J R c e nL xs D)) =
    cond (px_inb ((v3 + 1)) nL)
    (cond (px_inb ((v3 + 2)) nL)
    (px_bd (X 130 [.ref 13, .int ((xs (Int32.toNatClampNeg ((v3 + 1))))), .int ((xs (Int32.toNatClampNeg ((v3 + 2)))))] (hp M J R c e nL xs D))
    (fun v G1 => px_p (kL_law X) 511 12 ([some (.ref 0), some (.ref 13), some (.ref 67), some (.int (v3))], px_psh v [], G1))) none) none := (px_run_eq _ _ _).trans rfl
set_option maxRecDepth 40000 in
theorem eL_law_458 (X : px_X) (M : Nat → Nat → Int32) (J : Nat → Nat → Int64) (R : Nat → Nat → Option Nat) (c e : Nat) (nL : Nat) (xs : Nat → Int32) (D : px_H) (v3 : Int32) : px_run (px_mk (kL_law X)) 458 ([some (.ref 0), some (.ref 13), some (.ref 67), some (.int (v3))], [], (hp M J R c e nL xs D)) =
    cond (px_inb ((v3 + 1)) nL)
    (cond (px_inb ((v3 + 2)) nL)
    (cond (px_inb ((v3 + 3)) nL)
    (cond (px_inb ((v3 + 4)) nL)
    (px_bd (X 129 [.ref 13, .int ((xs (Int32.toNatClampNeg ((v3 + 1))))), .int ((xs (Int32.toNatClampNeg ((v3 + 2))))), .int ((xs (Int32.toNatClampNeg ((v3 + 3))))), .int ((xs (Int32.toNatClampNeg ((v3 + 4)))))] (hp M J R c e nL xs D))
    (fun v G1 => px_p (kL_law X) 458 22 ([some (.ref 0), some (.ref 13), some (.ref 67), some (.int (v3))], px_psh v [], G1))) none) none) none) none := (px_run_eq _ _ _).trans rfl
set_option maxRecDepth 40000 in
theorem eL_law_444 (X : px_X) (M : Nat → Nat → Int32) (J : Nat → Nat → Int64) (R : Nat → Nat → Option Nat) (c e : Nat) (nL : Nat) (xs : Nat → Int32) (D : px_H) (v3 : Int32) : px_run (px_mk (kL_law X)) 444 ([some (.ref 0), some (.ref 13), some (.ref 67), some (.int (v3))], [], (hp M J R c e nL xs D)) =
    px_bd (X 128 [.ref 13] (hp M J R c e nL xs D))
    (fun v G1 => px_p (kL_law X) 444 2 ([some (.ref 0), some (.ref 13), some (.ref 67), some (.int (v3))], px_psh v [], G1)) := (px_run_eq _ _ _).trans rfl
set_option maxRecDepth 40000 in
theorem eL_law_410 (X : px_X) (M : Nat → Nat → Int32) (J : Nat → Nat → Int64) (R : Nat → Nat → Option Nat) (c e : Nat) (nL : Nat) (xs : Nat → Int32) (D : px_H) (v3 : Int32) : px_run (px_mk (kL_law X)) 410 ([some (.ref 0), some (.ref 13), some (.ref 67), some (.int (v3))], [], (hp M J R c e nL xs D)) =
    cond (px_inb ((v3 + 1)) nL)
    (cond (px_inb ((v3 + 2)) nL)
    (px_bd (X 127 [.ref 13, .int ((xs (Int32.toNatClampNeg ((v3 + 1))))), .int ((xs (Int32.toNatClampNeg ((v3 + 2)))))] (hp M J R c e nL xs D))
    (fun v G1 => px_p (kL_law X) 410 12 ([some (.ref 0), some (.ref 13), some (.ref 67), some (.int (v3))], px_psh v [], G1))) none) none := (px_run_eq _ _ _).trans rfl
set_option maxRecDepth 40000 in
theorem eL_law_376 (X : px_X) (M : Nat → Nat → Int32) (J : Nat → Nat → Int64) (R : Nat → Nat → Option Nat) (c e : Nat) (nL : Nat) (xs : Nat → Int32) (D : px_H) (v3 : Int32) : px_run (px_mk (kL_law X)) 376 ([some (.ref 0), some (.ref 13), some (.ref 67), some (.int (v3))], [], (hp M J R c e nL xs D)) =
    cond (px_inb ((v3 + 1)) nL)
    (cond (px_inb ((v3 + 2)) nL)
    (px_bd (X 126 [.ref 13, .int ((xs (Int32.toNatClampNeg ((v3 + 1))))), .int ((xs (Int32.toNatClampNeg ((v3 + 2)))))] (hp M J R c e nL xs D))
    (fun v G1 => px_p (kL_law X) 376 12 ([some (.ref 0), some (.ref 13), some (.ref 67), some (.int (v3))], px_psh v [], G1))) none) none := (px_run_eq _ _ _).trans rfl
set_option maxRecDepth 40000 in
theorem eL_law_353 (X : px_X) (M : Nat → Nat → Int32) (J : Nat → Nat → Int64) (R : Nat → Nat → Option Nat) (c e : Nat) (nL : Nat) (xs : Nat → Int32) (D : px_H) (v3 : Int32) : px_run (px_mk (kL_law X)) 353 ([some (.ref 0), some (.ref 13), some (.ref 67), some (.int (v3))], [], (hp M J R c e nL xs D)) =
    cond (px_inb ((v3 + 1)) nL)
    (px_bd (X 125 [.ref 13, .int ((xs (Int32.toNatClampNeg ((v3 + 1)))))] (hp M J R c e nL xs D))
    (fun v G1 => px_p (kL_law X) 353 7 ([some (.ref 0), some (.ref 13), some (.ref 67), some (.int (v3))], px_psh v [], G1))) none := (px_run_eq _ _ _).trans rfl
set_option maxRecDepth 40000 in
theorem eL_law_310 (X : px_X) (M : Nat → Nat → Int32) (J : Nat → Nat → Int64) (R : Nat → Nat → Option Nat) (c e : Nat) (nL : Nat) (xs : Nat → Int32) (D : px_H) (v3 : Int32) : px_run (px_mk (kL_law X)) 310 ([some (.ref 0), some (.ref 13), some (.ref 67), some (.int (v3))], [], (hp M J R c e nL xs D)) =
    cond (px_inb ((v3 + 1)) nL)
    (cond (px_inb ((v3 + 2)) nL)
    (cond (px_inb ((v3 + 3)) nL)
    (px_bd (X 123 [.ref 13, .int ((xs (Int32.toNatClampNeg ((v3 + 1))))), .int ((xs (Int32.toNatClampNeg ((v3 + 2))))), .int ((xs (Int32.toNatClampNeg ((v3 + 3)))))] (hp M J R c e nL xs D))
    (fun v G1 => px_p (kL_law X) 310 17 ([some (.ref 0), some (.ref 13), some (.ref 67), some (.int (v3))], px_psh v [], G1))) none) none) none := (px_run_eq _ _ _).trans rfl
set_option maxRecDepth 40000 in
theorem eL_law_267 (X : px_X) (M : Nat → Nat → Int32) (J : Nat → Nat → Int64) (R : Nat → Nat → Option Nat) (c e : Nat) (nL : Nat) (xs : Nat → Int32) (D : px_H) (v3 : Int32) : px_run (px_mk (kL_law X)) 267 ([some (.ref 0), some (.ref 13), some (.ref 67), some (.int (v3))], [], (hp M J R c e nL xs D)) =
    cond (px_inb ((v3 + 1)) nL)
    (cond (px_inb ((v3 + 2)) nL)
    (cond (px_inb ((v3 + 3)) nL)
    (px_bd (X 122 [.ref 13, .int ((xs (Int32.toNatClampNeg ((v3 + 1))))), .int ((xs (Int32.toNatClampNeg ((v3 + 2))))), .int ((xs (Int32.toNatClampNeg ((v3 + 3)))))] (hp M J R c e nL xs D))
    (fun v G1 => px_p (kL_law X) 267 17 ([some (.ref 0), some (.ref 13), some (.ref 67), some (.int (v3))], px_psh v [], G1))) none) none) none := (px_run_eq _ _ _).trans rfl
set_option maxRecDepth 40000 in
theorem eL_law_208 (X : px_X) (M : Nat → Nat → Int32) (J : Nat → Nat → Int64) (R : Nat → Nat → Option Nat) (c e : Nat) (nL : Nat) (xs : Nat → Int32) (D : px_H) (v3 : Int32) : px_run (px_mk (kL_law X)) 208 ([some (.ref 0), some (.ref 13), some (.ref 67), some (.int (v3))], [], (hp M J R c e nL xs D)) =
    cond (px_inb ((v3 + 1)) nL)
    (cond (px_inb ((v3 + 2)) nL)
    (cond (px_inb ((v3 + 3)) nL)
    (cond (decide ((xs (Int32.toNatClampNeg ((v3 + 3)))) = 0))
    (px_run (px_mk (kL_law X)) 231 ([some (.ref 0), some (.ref 13), some (.ref 67), some (.int (v3))], [.int ((xs (Int32.toNatClampNeg ((v3 + 2))))), .int ((xs (Int32.toNatClampNeg ((v3 + 1))))), .ref 13], (hp M J R c e nL xs D)))
    (px_run (px_mk (kL_law X)) 232 ([some (.ref 0), some (.ref 13), some (.ref 67), some (.int (v3))], [.int (1), .int ((xs (Int32.toNatClampNeg ((v3 + 2))))), .int ((xs (Int32.toNatClampNeg ((v3 + 1))))), .ref 13], (hp M J R c e nL xs D)))) none) none) none := (px_run_eq _ _ _).trans rfl
set_option maxRecDepth 40000 in
theorem eL_law_1535_12 (X : px_X) (M : Nat → Nat → Int32) (J : Nat → Nat → Int64) (R : Nat → Nat → Option Nat) (c e : Nat) (nL : Nat) (xs : Nat → Int32) (D : px_H) (v3 : Int32) (w0 : Int32) : px_p (kL_law X) 1535 12 ([some (.ref 0), some (.ref 13), some (.ref 67), some (.int (v3))], [.int (w0)], (hp M J R c e nL xs D)) =
    cond (px_inb ((v3 + 1)) nL)
    (cond (px_inb ((v3 + 2)) nL)
    (px_bd (X 255 [.ref 67, .int ((xs (Int32.toNatClampNeg ((v3 + 1))))), .int ((xs (Int32.toNatClampNeg ((v3 + 2)))))] (hp M J R c e nL xs D))
    (fun v G1 => px_p (kL_law X) 1535 24 ([some (.ref 0), some (.ref 13), some (.ref 67), some (.int (v3))], px_psh v [.int (w0)], G1))) none) none := rfl
set_option maxRecDepth 40000 in
theorem eL_law_1502_12 (X : px_X) (M : Nat → Nat → Int32) (J : Nat → Nat → Int64) (R : Nat → Nat → Option Nat) (c e : Nat) (nL : Nat) (xs : Nat → Int32) (D : px_H) (v3 : Int32) (w0 : Int32) : px_p (kL_law X) 1502 12 ([some (.ref 0), some (.ref 13), some (.ref 67), some (.int (v3))], [.int (w0)], (hp M J R c e nL xs D)) =
    cond (px_inb ((v3 + 1)) nL)
    (cond (px_inb ((v3 + 2)) nL)
    (px_bd (X 254 [.ref 67, .int ((xs (Int32.toNatClampNeg ((v3 + 1))))), .int ((xs (Int32.toNatClampNeg ((v3 + 2)))))] (hp M J R c e nL xs D))
    (fun v G1 => px_p (kL_law X) 1502 24 ([some (.ref 0), some (.ref 13), some (.ref 67), some (.int (v3))], px_psh v [.int (w0)], G1))) none) none := rfl
set_option maxRecDepth 40000 in
theorem eL_law_1459_17 (X : px_X) (M : Nat → Nat → Int32) (J : Nat → Nat → Int64) (R : Nat → Nat → Option Nat) (c e : Nat) (nL : Nat) (xs : Nat → Int32) (D : px_H) (v3 : Int32) (w0 : Int32) : px_p (kL_law X) 1459 17 ([some (.ref 0), some (.ref 13), some (.ref 67), some (.int (v3))], [.int (w0)], (hp M J R c e nL xs D)) =
    cond (px_inb ((v3 + 1)) nL)
    (cond (px_inb ((v3 + 2)) nL)
    (cond (px_inb ((v3 + 3)) nL)
    (px_bd (X 253 [.ref 67, .int ((xs (Int32.toNatClampNeg ((v3 + 1))))), .int ((xs (Int32.toNatClampNeg ((v3 + 2))))), .int ((xs (Int32.toNatClampNeg ((v3 + 3)))))] (hp M J R c e nL xs D))
    (fun v G1 => px_p (kL_law X) 1459 34 ([some (.ref 0), some (.ref 13), some (.ref 67), some (.int (v3))], px_psh v [.int (w0)], G1))) none) none) none := rfl
set_option maxRecDepth 40000 in
theorem eL_law_1416_17 (X : px_X) (M : Nat → Nat → Int32) (J : Nat → Nat → Int64) (R : Nat → Nat → Option Nat) (c e : Nat) (nL : Nat) (xs : Nat → Int32) (D : px_H) (v3 : Int32) (w0 : Int32) : px_p (kL_law X) 1416 17 ([some (.ref 0), some (.ref 13), some (.ref 67), some (.int (v3))], [.int (w0)], (hp M J R c e nL xs D)) =
    cond (px_inb ((v3 + 1)) nL)
    (cond (px_inb ((v3 + 2)) nL)
    (cond (px_inb ((v3 + 3)) nL)
    (px_bd (X 252 [.ref 67, .int ((xs (Int32.toNatClampNeg ((v3 + 1))))), .int ((xs (Int32.toNatClampNeg ((v3 + 2))))), .int ((xs (Int32.toNatClampNeg ((v3 + 3)))))] (hp M J R c e nL xs D))
    (fun v G1 => px_p (kL_law X) 1416 34 ([some (.ref 0), some (.ref 13), some (.ref 67), some (.int (v3))], px_psh v [.int (w0)], G1))) none) none) none := rfl
set_option maxRecDepth 40000 in
theorem eL_law_1393_7 (X : px_X) (M : Nat → Nat → Int32) (J : Nat → Nat → Int64) (R : Nat → Nat → Option Nat) (c e : Nat) (nL : Nat) (xs : Nat → Int32) (D : px_H) (v3 : Int32) (w0 : Int32) : px_p (kL_law X) 1393 7 ([some (.ref 0), some (.ref 13), some (.ref 67), some (.int (v3))], [.int (w0)], (hp M J R c e nL xs D)) =
    cond (px_inb ((v3 + 1)) nL)
    (px_bd (X 250 [.ref 67, .int ((xs (Int32.toNatClampNeg ((v3 + 1)))))] (hp M J R c e nL xs D))
    (fun v G1 => px_p (kL_law X) 1393 14 ([some (.ref 0), some (.ref 13), some (.ref 67), some (.int (v3))], px_psh v [.int (w0)], G1))) none := rfl
set_option maxRecDepth 40000 in
theorem eL_law_1360_12 (X : px_X) (M : Nat → Nat → Int32) (J : Nat → Nat → Int64) (R : Nat → Nat → Option Nat) (c e : Nat) (nL : Nat) (xs : Nat → Int32) (D : px_H) (v3 : Int32) (w0 : Int32) : px_p (kL_law X) 1360 12 ([some (.ref 0), some (.ref 13), some (.ref 67), some (.int (v3))], [.int (w0)], (hp M J R c e nL xs D)) =
    cond (px_inb ((v3 + 1)) nL)
    (cond (px_inb ((v3 + 2)) nL)
    (px_bd (X 249 [.ref 67, .int ((xs (Int32.toNatClampNeg ((v3 + 1))))), .int ((xs (Int32.toNatClampNeg ((v3 + 2)))))] (hp M J R c e nL xs D))
    (fun v G1 => px_p (kL_law X) 1360 24 ([some (.ref 0), some (.ref 13), some (.ref 67), some (.int (v3))], px_psh v [.int (w0)], G1))) none) none := rfl
set_option maxRecDepth 40000 in
theorem eL_law_1337_7 (X : px_X) (M : Nat → Nat → Int32) (J : Nat → Nat → Int64) (R : Nat → Nat → Option Nat) (c e : Nat) (nL : Nat) (xs : Nat → Int32) (D : px_H) (v3 : Int32) (w0 : Int32) : px_p (kL_law X) 1337 7 ([some (.ref 0), some (.ref 13), some (.ref 67), some (.int (v3))], [.int (w0)], (hp M J R c e nL xs D)) =
    cond (px_inb ((v3 + 1)) nL)
    (px_bd (X 248 [.ref 67, .int ((xs (Int32.toNatClampNeg ((v3 + 1)))))] (hp M J R c e nL xs D))
    (fun v G1 => px_p (kL_law X) 1337 14 ([some (.ref 0), some (.ref 13), some (.ref 67), some (.int (v3))], px_psh v [.int (w0)], G1))) none := rfl
set_option maxRecDepth 40000 in
theorem eL_law_1314_7 (X : px_X) (M : Nat → Nat → Int32) (J : Nat → Nat → Int64) (R : Nat → Nat → Option Nat) (c e : Nat) (nL : Nat) (xs : Nat → Int32) (D : px_H) (v3 : Int32) (w0 : Int32) : px_p (kL_law X) 1314 7 ([some (.ref 0), some (.ref 13), some (.ref 67), some (.int (v3))], [.int (w0)], (hp M J R c e nL xs D)) =
    cond (px_inb ((v3 + 1)) nL)
    (px_bd (X 245 [.ref 67, .int ((xs (Int32.toNatClampNeg ((v3 + 1)))))] (hp M J R c e nL xs D))
    (fun v G1 => px_p (kL_law X) 1314 14 ([some (.ref 0), some (.ref 13), some (.ref 67), some (.int (v3))], px_psh v [.int (w0)], G1))) none := rfl
set_option maxRecDepth 40000 in
theorem eL_law_1291_7 (X : px_X) (M : Nat → Nat → Int32) (J : Nat → Nat → Int64) (R : Nat → Nat → Option Nat) (c e : Nat) (nL : Nat) (xs : Nat → Int32) (D : px_H) (v3 : Int32) (w0 : Int32) : px_p (kL_law X) 1291 7 ([some (.ref 0), some (.ref 13), some (.ref 67), some (.int (v3))], [.int (w0)], (hp M J R c e nL xs D)) =
    cond (px_inb ((v3 + 1)) nL)
    (px_bd (X 244 [.ref 67, .int ((xs (Int32.toNatClampNeg ((v3 + 1)))))] (hp M J R c e nL xs D))
    (fun v G1 => px_p (kL_law X) 1291 14 ([some (.ref 0), some (.ref 13), some (.ref 67), some (.int (v3))], px_psh v [.int (w0)], G1))) none := rfl
set_option maxRecDepth 40000 in
theorem eL_law_1268_7 (X : px_X) (M : Nat → Nat → Int32) (J : Nat → Nat → Int64) (R : Nat → Nat → Option Nat) (c e : Nat) (nL : Nat) (xs : Nat → Int32) (D : px_H) (v3 : Int32) (w0 : Int32) : px_p (kL_law X) 1268 7 ([some (.ref 0), some (.ref 13), some (.ref 67), some (.int (v3))], [.int (w0)], (hp M J R c e nL xs D)) =
    cond (px_inb ((v3 + 1)) nL)
    (px_bd (X 243 [.ref 67, .int ((xs (Int32.toNatClampNeg ((v3 + 1)))))] (hp M J R c e nL xs D))
    (fun v G1 => px_p (kL_law X) 1268 14 ([some (.ref 0), some (.ref 13), some (.ref 67), some (.int (v3))], px_psh v [.int (w0)], G1))) none := rfl
set_option maxRecDepth 40000 in
theorem eL_law_1255_2 (X : px_X) (M : Nat → Nat → Int32) (J : Nat → Nat → Int64) (R : Nat → Nat → Option Nat) (c e : Nat) (nL : Nat) (xs : Nat → Int32) (D : px_H) (v3 : Int32) (w0 : Int32) : px_p (kL_law X) 1255 2 ([some (.ref 0), some (.ref 13), some (.ref 67), some (.int (v3))], [.int (w0)], (hp M J R c e nL xs D)) =
    px_bd (X 242 [.ref 67] (hp M J R c e nL xs D))
    (fun v G1 => px_p (kL_law X) 1255 4 ([some (.ref 0), some (.ref 13), some (.ref 67), some (.int (v3))], px_psh v [.int (w0)], G1)) := rfl
set_option maxRecDepth 40000 in
theorem eL_law_1232_7 (X : px_X) (M : Nat → Nat → Int32) (J : Nat → Nat → Int64) (R : Nat → Nat → Option Nat) (c e : Nat) (nL : Nat) (xs : Nat → Int32) (D : px_H) (v3 : Int32) (w0 : Int32) : px_p (kL_law X) 1232 7 ([some (.ref 0), some (.ref 13), some (.ref 67), some (.int (v3))], [.int (w0)], (hp M J R c e nL xs D)) =
    cond (px_inb ((v3 + 1)) nL)
    (px_bd (X 239 [.ref 67, .int ((xs (Int32.toNatClampNeg ((v3 + 1)))))] (hp M J R c e nL xs D))
    (fun v G1 => px_p (kL_law X) 1232 14 ([some (.ref 0), some (.ref 13), some (.ref 67), some (.int (v3))], px_psh v [.int (w0)], G1))) none := rfl
set_option maxRecDepth 40000 in
theorem eL_law_1199_12 (X : px_X) (M : Nat → Nat → Int32) (J : Nat → Nat → Int64) (R : Nat → Nat → Option Nat) (c e : Nat) (nL : Nat) (xs : Nat → Int32) (D : px_H) (v3 : Int32) (w0 : Int32) : px_p (kL_law X) 1199 12 ([some (.ref 0), some (.ref 13), some (.ref 67), some (.int (v3))], [.int (w0)], (hp M J R c e nL xs D)) =
    cond (px_inb ((v3 + 1)) nL)
    (cond (px_inb ((v3 + 2)) nL)
    (px_bd (X 238 [.ref 67, .int ((xs (Int32.toNatClampNeg ((v3 + 1))))), .int ((xs (Int32.toNatClampNeg ((v3 + 2)))))] (hp M J R c e nL xs D))
    (fun v G1 => px_p (kL_law X) 1199 24 ([some (.ref 0), some (.ref 13), some (.ref 67), some (.int (v3))], px_psh v [.int (w0)], G1))) none) none := rfl
set_option maxRecDepth 40000 in
theorem eL_law_1176_7 (X : px_X) (M : Nat → Nat → Int32) (J : Nat → Nat → Int64) (R : Nat → Nat → Option Nat) (c e : Nat) (nL : Nat) (xs : Nat → Int32) (D : px_H) (v3 : Int32) (w0 : Int32) : px_p (kL_law X) 1176 7 ([some (.ref 0), some (.ref 13), some (.ref 67), some (.int (v3))], [.int (w0)], (hp M J R c e nL xs D)) =
    cond (px_inb ((v3 + 1)) nL)
    (px_bd (X 237 [.ref 67, .int ((xs (Int32.toNatClampNeg ((v3 + 1)))))] (hp M J R c e nL xs D))
    (fun v G1 => px_p (kL_law X) 1176 14 ([some (.ref 0), some (.ref 13), some (.ref 67), some (.int (v3))], px_psh v [.int (w0)], G1))) none := rfl
set_option maxRecDepth 40000 in
theorem eL_law_1153_7 (X : px_X) (M : Nat → Nat → Int32) (J : Nat → Nat → Int64) (R : Nat → Nat → Option Nat) (c e : Nat) (nL : Nat) (xs : Nat → Int32) (D : px_H) (v3 : Int32) (w0 : Int32) : px_p (kL_law X) 1153 7 ([some (.ref 0), some (.ref 13), some (.ref 67), some (.int (v3))], [.int (w0)], (hp M J R c e nL xs D)) =
    cond (px_inb ((v3 + 1)) nL)
    (px_bd (X 236 [.ref 67, .int ((xs (Int32.toNatClampNeg ((v3 + 1)))))] (hp M J R c e nL xs D))
    (fun v G1 => px_p (kL_law X) 1153 14 ([some (.ref 0), some (.ref 13), some (.ref 67), some (.int (v3))], px_psh v [.int (w0)], G1))) none := rfl
set_option maxRecDepth 40000 in
theorem eL_law_1110_17 (X : px_X) (M : Nat → Nat → Int32) (J : Nat → Nat → Int64) (R : Nat → Nat → Option Nat) (c e : Nat) (nL : Nat) (xs : Nat → Int32) (D : px_H) (v3 : Int32) (w0 : Int32) : px_p (kL_law X) 1110 17 ([some (.ref 0), some (.ref 13), some (.ref 67), some (.int (v3))], [.int (w0)], (hp M J R c e nL xs D)) =
    cond (px_inb ((v3 + 1)) nL)
    (cond (px_inb ((v3 + 2)) nL)
    (cond (px_inb ((v3 + 3)) nL)
    (px_bd (X 234 [.ref 67, .int ((xs (Int32.toNatClampNeg ((v3 + 1))))), .int ((xs (Int32.toNatClampNeg ((v3 + 2))))), .int ((xs (Int32.toNatClampNeg ((v3 + 3)))))] (hp M J R c e nL xs D))
    (fun v G1 => px_p (kL_law X) 1110 34 ([some (.ref 0), some (.ref 13), some (.ref 67), some (.int (v3))], px_psh v [.int (w0)], G1))) none) none) none := rfl
set_option maxRecDepth 40000 in
theorem eL_law_1066_17 (X : px_X) (M : Nat → Nat → Int32) (J : Nat → Nat → Int64) (R : Nat → Nat → Option Nat) (c e : Nat) (nL : Nat) (xs : Nat → Int32) (D : px_H) (v3 : Int32) (w0 : Int64) : px_p (kL_law X) 1066 17 ([some (.ref 0), some (.ref 13), some (.ref 67), some (.int (v3))], [.long (w0)], (hp M J R c e nL xs D)) =
    cond (px_inb ((v3 + 1)) nL)
    (cond (px_inb ((v3 + 2)) nL)
    (cond (px_inb ((v3 + 3)) nL)
    (px_bd (X 231 [.ref 67, .int ((xs (Int32.toNatClampNeg ((v3 + 1))))), .int ((xs (Int32.toNatClampNeg ((v3 + 2))))), .int ((xs (Int32.toNatClampNeg ((v3 + 3)))))] (hp M J R c e nL xs D))
    (fun v G1 => px_p (kL_law X) 1066 34 ([some (.ref 0), some (.ref 13), some (.ref 67), some (.int (v3))], px_psh v [.long (w0)], G1))) none) none) none := rfl
set_option maxRecDepth 40000 in
theorem eL_law_1053_2 (X : px_X) (M : Nat → Nat → Int32) (J : Nat → Nat → Int64) (R : Nat → Nat → Option Nat) (c e : Nat) (nL : Nat) (xs : Nat → Int32) (D : px_H) (v3 : Int32) (w0 : Int32) : px_p (kL_law X) 1053 2 ([some (.ref 0), some (.ref 13), some (.ref 67), some (.int (v3))], [.int (w0)], (hp M J R c e nL xs D)) =
    px_bd (X 227 [.ref 67] (hp M J R c e nL xs D))
    (fun v G1 => px_p (kL_law X) 1053 4 ([some (.ref 0), some (.ref 13), some (.ref 67), some (.int (v3))], px_psh v [.int (w0)], G1)) := rfl
set_option maxRecDepth 40000 in
theorem eL_law_990_24 (X : px_X) (M : Nat → Nat → Int32) (J : Nat → Nat → Int64) (R : Nat → Nat → Option Nat) (c e : Nat) (nL : Nat) (xs : Nat → Int32) (D : px_H) (v3 : Int32) (w0 : Int32) : px_p (kL_law X) 990 24 ([some (.ref 0), some (.ref 13), some (.ref 67), some (.int (v3))], [.int (w0)], (hp M J R c e nL xs D)) =
    cond (px_inb ((v3 + 1)) nL)
    (cond (px_inb ((v3 + 2)) nL)
    (cond (px_inb ((v3 + 3)) nL)
    (px_bd (X 226 [.ref 67, .int ((xs (Int32.toNatClampNeg ((v3 + 1))))), .long ((((Int32.toInt64 (xs (Int32.toNatClampNeg ((v3 + 2))))) <<< (Int32.toInt64 (32) &&& 63)) ||| ((Int32.toInt64 (xs (Int32.toNatClampNeg ((v3 + 3))))) &&& 4294967295)))] (hp M J R c e nL xs D))
    (fun v G1 => px_p (kL_law X) 990 48 ([some (.ref 0), some (.ref 13), some (.ref 67), some (.int (v3))], px_psh v [.int (w0)], G1))) none) none) none := rfl
set_option maxRecDepth 40000 in
theorem eL_law_927_27 (X : px_X) (M : Nat → Nat → Int32) (J : Nat → Nat → Int64) (R : Nat → Nat → Option Nat) (c e : Nat) (nL : Nat) (xs : Nat → Int32) (D : px_H) (v3 : Int32) (w0 : Int32) : px_p (kL_law X) 927 27 ([some (.ref 0), some (.ref 13), some (.ref 67), some (.int (v3))], [.int (w0)], (hp M J R c e nL xs D)) =
    cond (px_inb ((v3 + 1)) nL)
    (cond (px_inb ((v3 + 2)) nL)
    (cond (px_inb ((v3 + 3)) nL)
    (cond (px_inb ((v3 + 4)) nL)
    (cond (px_inb ((v3 + 5)) nL)
    (px_bd (X 207 [.ref 67, .int ((xs (Int32.toNatClampNeg ((v3 + 1))))), .int ((xs (Int32.toNatClampNeg ((v3 + 2))))), .int ((xs (Int32.toNatClampNeg ((v3 + 3))))), .int ((xs (Int32.toNatClampNeg ((v3 + 4))))), .int ((xs (Int32.toNatClampNeg ((v3 + 5)))))] (hp M J R c e nL xs D))
    (fun v G1 => px_p (kL_law X) 927 54 ([some (.ref 0), some (.ref 13), some (.ref 67), some (.int (v3))], px_psh v [.int (w0)], G1))) none) none) none) none) none := rfl
set_option maxRecDepth 40000 in
theorem eL_law_894_12 (X : px_X) (M : Nat → Nat → Int32) (J : Nat → Nat → Int64) (R : Nat → Nat → Option Nat) (c e : Nat) (nL : Nat) (xs : Nat → Int32) (D : px_H) (v3 : Int32) (w0 : Int32) : px_p (kL_law X) 894 12 ([some (.ref 0), some (.ref 13), some (.ref 67), some (.int (v3))], [.int (w0)], (hp M J R c e nL xs D)) =
    cond (px_inb ((v3 + 1)) nL)
    (cond (px_inb ((v3 + 2)) nL)
    (px_bd (X 206 [.ref 67, .int ((xs (Int32.toNatClampNeg ((v3 + 1))))), .int ((xs (Int32.toNatClampNeg ((v3 + 2)))))] (hp M J R c e nL xs D))
    (fun v G1 => px_p (kL_law X) 894 24 ([some (.ref 0), some (.ref 13), some (.ref 67), some (.int (v3))], px_psh v [.int (w0)], G1))) none) none := rfl
set_option maxRecDepth 40000 in
theorem eL_law_881_2 (X : px_X) (M : Nat → Nat → Int32) (J : Nat → Nat → Int64) (R : Nat → Nat → Option Nat) (c e : Nat) (nL : Nat) (xs : Nat → Int32) (D : px_H) (v3 : Int32) (w0 : Int32) : px_p (kL_law X) 881 2 ([some (.ref 0), some (.ref 13), some (.ref 67), some (.int (v3))], [.int (w0)], (hp M J R c e nL xs D)) =
    px_bd (X 205 [.ref 67] (hp M J R c e nL xs D))
    (fun v G1 => px_p (kL_law X) 881 4 ([some (.ref 0), some (.ref 13), some (.ref 67), some (.int (v3))], px_psh v [.int (w0)], G1)) := rfl
set_option maxRecDepth 40000 in
theorem eL_law_818_27 (X : px_X) (M : Nat → Nat → Int32) (J : Nat → Nat → Int64) (R : Nat → Nat → Option Nat) (c e : Nat) (nL : Nat) (xs : Nat → Int32) (D : px_H) (v3 : Int32) (w0 : Int32) : px_p (kL_law X) 818 27 ([some (.ref 0), some (.ref 13), some (.ref 67), some (.int (v3))], [.int (w0)], (hp M J R c e nL xs D)) =
    cond (px_inb ((v3 + 1)) nL)
    (cond (px_inb ((v3 + 2)) nL)
    (cond (px_inb ((v3 + 3)) nL)
    (cond (px_inb ((v3 + 4)) nL)
    (cond (px_inb ((v3 + 5)) nL)
    (px_bd (X 204 [.ref 67, .int ((xs (Int32.toNatClampNeg ((v3 + 1))))), .int ((xs (Int32.toNatClampNeg ((v3 + 2))))), .int ((xs (Int32.toNatClampNeg ((v3 + 3))))), .int ((xs (Int32.toNatClampNeg ((v3 + 4))))), .int ((xs (Int32.toNatClampNeg ((v3 + 5)))))] (hp M J R c e nL xs D))
    (fun v G1 => px_p (kL_law X) 818 54 ([some (.ref 0), some (.ref 13), some (.ref 67), some (.int (v3))], px_psh v [.int (w0)], G1))) none) none) none) none) none := rfl
set_option maxRecDepth 40000 in
theorem eL_law_775_17 (X : px_X) (M : Nat → Nat → Int32) (J : Nat → Nat → Int64) (R : Nat → Nat → Option Nat) (c e : Nat) (nL : Nat) (xs : Nat → Int32) (D : px_H) (v3 : Int32) (w0 : Int32) : px_p (kL_law X) 775 17 ([some (.ref 0), some (.ref 13), some (.ref 67), some (.int (v3))], [.int (w0)], (hp M J R c e nL xs D)) =
    cond (px_inb ((v3 + 1)) nL)
    (cond (px_inb ((v3 + 2)) nL)
    (cond (px_inb ((v3 + 3)) nL)
    (px_bd (X 196 [.ref 67, .int ((xs (Int32.toNatClampNeg ((v3 + 1))))), .int ((xs (Int32.toNatClampNeg ((v3 + 2))))), .int ((xs (Int32.toNatClampNeg ((v3 + 3)))))] (hp M J R c e nL xs D))
    (fun v G1 => px_p (kL_law X) 775 34 ([some (.ref 0), some (.ref 13), some (.ref 67), some (.int (v3))], px_psh v [.int (w0)], G1))) none) none) none := rfl
set_option maxRecDepth 40000 in
theorem eL_law_762_2 (X : px_X) (M : Nat → Nat → Int32) (J : Nat → Nat → Int64) (R : Nat → Nat → Option Nat) (c e : Nat) (nL : Nat) (xs : Nat → Int32) (D : px_H) (v3 : Int32) (w0 : Int32) : px_p (kL_law X) 762 2 ([some (.ref 0), some (.ref 13), some (.ref 67), some (.int (v3))], [.int (w0)], (hp M J R c e nL xs D)) =
    px_bd (X 195 [.ref 67] (hp M J R c e nL xs D))
    (fun v G1 => px_p (kL_law X) 762 4 ([some (.ref 0), some (.ref 13), some (.ref 67), some (.int (v3))], px_psh v [.int (w0)], G1)) := rfl
set_option maxRecDepth 40000 in
theorem eL_law_729_12 (X : px_X) (M : Nat → Nat → Int32) (J : Nat → Nat → Int64) (R : Nat → Nat → Option Nat) (c e : Nat) (nL : Nat) (xs : Nat → Int32) (D : px_H) (v3 : Int32) (w0 : Int32) : px_p (kL_law X) 729 12 ([some (.ref 0), some (.ref 13), some (.ref 67), some (.int (v3))], [.int (w0)], (hp M J R c e nL xs D)) =
    cond (px_inb ((v3 + 1)) nL)
    (cond (px_inb ((v3 + 2)) nL)
    (px_bd (X 194 [.ref 67, .int ((xs (Int32.toNatClampNeg ((v3 + 1))))), .int ((xs (Int32.toNatClampNeg ((v3 + 2)))))] (hp M J R c e nL xs D))
    (fun v G1 => px_p (kL_law X) 729 24 ([some (.ref 0), some (.ref 13), some (.ref 67), some (.int (v3))], px_psh v [.int (w0)], G1))) none) none := rfl
set_option maxRecDepth 40000 in
theorem eL_law_686_17 (X : px_X) (M : Nat → Nat → Int32) (J : Nat → Nat → Int64) (R : Nat → Nat → Option Nat) (c e : Nat) (nL : Nat) (xs : Nat → Int32) (D : px_H) (v3 : Int32) (w0 : Int32) : px_p (kL_law X) 686 17 ([some (.ref 0), some (.ref 13), some (.ref 67), some (.int (v3))], [.int (w0)], (hp M J R c e nL xs D)) =
    cond (px_inb ((v3 + 1)) nL)
    (cond (px_inb ((v3 + 2)) nL)
    (cond (px_inb ((v3 + 3)) nL)
    (px_bd (X 192 [.ref 67, .int ((xs (Int32.toNatClampNeg ((v3 + 1))))), .int ((xs (Int32.toNatClampNeg ((v3 + 2))))), .int ((xs (Int32.toNatClampNeg ((v3 + 3)))))] (hp M J R c e nL xs D))
    (fun v G1 => px_p (kL_law X) 686 34 ([some (.ref 0), some (.ref 13), some (.ref 67), some (.int (v3))], px_psh v [.int (w0)], G1))) none) none) none := rfl
set_option maxRecDepth 40000 in
theorem eL_law_643_17 (X : px_X) (M : Nat → Nat → Int32) (J : Nat → Nat → Int64) (R : Nat → Nat → Option Nat) (c e : Nat) (nL : Nat) (xs : Nat → Int32) (D : px_H) (v3 : Int32) (w0 : Int32) : px_p (kL_law X) 643 17 ([some (.ref 0), some (.ref 13), some (.ref 67), some (.int (v3))], [.int (w0)], (hp M J R c e nL xs D)) =
    cond (px_inb ((v3 + 1)) nL)
    (cond (px_inb ((v3 + 2)) nL)
    (cond (px_inb ((v3 + 3)) nL)
    (px_bd (X 193 [.ref 67, .int ((xs (Int32.toNatClampNeg ((v3 + 1))))), .int ((xs (Int32.toNatClampNeg ((v3 + 2))))), .int ((xs (Int32.toNatClampNeg ((v3 + 3)))))] (hp M J R c e nL xs D))
    (fun v G1 => px_p (kL_law X) 643 34 ([some (.ref 0), some (.ref 13), some (.ref 67), some (.int (v3))], px_psh v [.int (w0)], G1))) none) none) none := rfl
set_option maxRecDepth 40000 in
theorem eL_law_610_12 (X : px_X) (M : Nat → Nat → Int32) (J : Nat → Nat → Int64) (R : Nat → Nat → Option Nat) (c e : Nat) (nL : Nat) (xs : Nat → Int32) (D : px_H) (v3 : Int32) (w0 : Int32) : px_p (kL_law X) 610 12 ([some (.ref 0), some (.ref 13), some (.ref 67), some (.int (v3))], [.int (w0)], (hp M J R c e nL xs D)) =
    cond (px_inb ((v3 + 1)) nL)
    (cond (px_inb ((v3 + 2)) nL)
    (px_bd (X 189 [.ref 67, .int ((xs (Int32.toNatClampNeg ((v3 + 1))))), .int ((xs (Int32.toNatClampNeg ((v3 + 2)))))] (hp M J R c e nL xs D))
    (fun v G1 => px_p (kL_law X) 610 24 ([some (.ref 0), some (.ref 13), some (.ref 67), some (.int (v3))], px_psh v [.int (w0)], G1))) none) none := rfl
set_option maxRecDepth 40000 in
theorem eL_law_577_12 (X : px_X) (M : Nat → Nat → Int32) (J : Nat → Nat → Int64) (R : Nat → Nat → Option Nat) (c e : Nat) (nL : Nat) (xs : Nat → Int32) (D : px_H) (v3 : Int32) (w0 : Int32) : px_p (kL_law X) 577 12 ([some (.ref 0), some (.ref 13), some (.ref 67), some (.int (v3))], [.int (w0)], (hp M J R c e nL xs D)) =
    cond (px_inb ((v3 + 1)) nL)
    (cond (px_inb ((v3 + 2)) nL)
    (px_bd (X 187 [.ref 67, .int ((xs (Int32.toNatClampNeg ((v3 + 1))))), .int ((xs (Int32.toNatClampNeg ((v3 + 2)))))] (hp M J R c e nL xs D))
    (fun v G1 => px_p (kL_law X) 577 24 ([some (.ref 0), some (.ref 13), some (.ref 67), some (.int (v3))], px_psh v [.int (w0)], G1))) none) none := rfl
set_option maxRecDepth 40000 in
theorem eL_law_544_12 (X : px_X) (M : Nat → Nat → Int32) (J : Nat → Nat → Int64) (R : Nat → Nat → Option Nat) (c e : Nat) (nL : Nat) (xs : Nat → Int32) (D : px_H) (v3 : Int32) (w0 : Int32) : px_p (kL_law X) 544 12 ([some (.ref 0), some (.ref 13), some (.ref 67), some (.int (v3))], [.int (w0)], (hp M J R c e nL xs D)) =
    cond (px_inb ((v3 + 1)) nL)
    (cond (px_inb ((v3 + 2)) nL)
    (px_bd (X 186 [.ref 67, .int ((xs (Int32.toNatClampNeg ((v3 + 1))))), .int ((xs (Int32.toNatClampNeg ((v3 + 2)))))] (hp M J R c e nL xs D))
    (fun v G1 => px_p (kL_law X) 544 24 ([some (.ref 0), some (.ref 13), some (.ref 67), some (.int (v3))], px_psh v [.int (w0)], G1))) none) none := rfl
set_option maxRecDepth 40000 in
theorem eL_law_511_12 (X : px_X) (M : Nat → Nat → Int32) (J : Nat → Nat → Int64) (R : Nat → Nat → Option Nat) (c e : Nat) (nL : Nat) (xs : Nat → Int32) (D : px_H) (v3 : Int32) (w0 : Int32) : px_p (kL_law X) 511 12 ([some (.ref 0), some (.ref 13), some (.ref 67), some (.int (v3))], [.int (w0)], (hp M J R c e nL xs D)) =
    cond (px_inb ((v3 + 1)) nL)
    (cond (px_inb ((v3 + 2)) nL)
    (px_bd (X 184 [.ref 67, .int ((xs (Int32.toNatClampNeg ((v3 + 1))))), .int ((xs (Int32.toNatClampNeg ((v3 + 2)))))] (hp M J R c e nL xs D))
    (fun v G1 => px_p (kL_law X) 511 24 ([some (.ref 0), some (.ref 13), some (.ref 67), some (.int (v3))], px_psh v [.int (w0)], G1))) none) none := rfl
set_option maxRecDepth 40000 in
theorem eL_law_458_22 (X : px_X) (M : Nat → Nat → Int32) (J : Nat → Nat → Int64) (R : Nat → Nat → Option Nat) (c e : Nat) (nL : Nat) (xs : Nat → Int32) (D : px_H) (v3 : Int32) (w0 : Int32) : px_p (kL_law X) 458 22 ([some (.ref 0), some (.ref 13), some (.ref 67), some (.int (v3))], [.int (w0)], (hp M J R c e nL xs D)) =
    cond (px_inb ((v3 + 1)) nL)
    (cond (px_inb ((v3 + 2)) nL)
    (cond (px_inb ((v3 + 3)) nL)
    (cond (px_inb ((v3 + 4)) nL)
    (px_bd (X 182 [.ref 67, .int ((xs (Int32.toNatClampNeg ((v3 + 1))))), .int ((xs (Int32.toNatClampNeg ((v3 + 2))))), .int ((xs (Int32.toNatClampNeg ((v3 + 3))))), .int ((xs (Int32.toNatClampNeg ((v3 + 4)))))] (hp M J R c e nL xs D))
    (fun v G1 => px_p (kL_law X) 458 44 ([some (.ref 0), some (.ref 13), some (.ref 67), some (.int (v3))], px_psh v [.int (w0)], G1))) none) none) none) none := rfl
set_option maxRecDepth 40000 in
theorem eL_law_444_2 (X : px_X) (M : Nat → Nat → Int32) (J : Nat → Nat → Int64) (R : Nat → Nat → Option Nat) (c e : Nat) (nL : Nat) (xs : Nat → Int32) (D : px_H) (v3 : Int32) (w0 : Int64) : px_p (kL_law X) 444 2 ([some (.ref 0), some (.ref 13), some (.ref 67), some (.int (v3))], [.long (w0)], (hp M J R c e nL xs D)) =
    px_bd (X 181 [.ref 67] (hp M J R c e nL xs D))
    (fun v G1 => px_p (kL_law X) 444 4 ([some (.ref 0), some (.ref 13), some (.ref 67), some (.int (v3))], px_psh v [.long (w0)], G1)) := rfl
set_option maxRecDepth 40000 in
theorem eL_law_410_12 (X : px_X) (M : Nat → Nat → Int32) (J : Nat → Nat → Int64) (R : Nat → Nat → Option Nat) (c e : Nat) (nL : Nat) (xs : Nat → Int32) (D : px_H) (v3 : Int32) (w0 : Int64) : px_p (kL_law X) 410 12 ([some (.ref 0), some (.ref 13), some (.ref 67), some (.int (v3))], [.long (w0)], (hp M J R c e nL xs D)) =
    cond (px_inb ((v3 + 1)) nL)
    (cond (px_inb ((v3 + 2)) nL)
    (px_bd (X 180 [.ref 67, .int ((xs (Int32.toNatClampNeg ((v3 + 1))))), .int ((xs (Int32.toNatClampNeg ((v3 + 2)))))] (hp M J R c e nL xs D))
    (fun v G1 => px_p (kL_law X) 410 24 ([some (.ref 0), some (.ref 13), some (.ref 67), some (.int (v3))], px_psh v [.long (w0)], G1))) none) none := rfl
set_option maxRecDepth 40000 in
theorem eL_law_376_12 (X : px_X) (M : Nat → Nat → Int32) (J : Nat → Nat → Int64) (R : Nat → Nat → Option Nat) (c e : Nat) (nL : Nat) (xs : Nat → Int32) (D : px_H) (v3 : Int32) (w0 : Int64) : px_p (kL_law X) 376 12 ([some (.ref 0), some (.ref 13), some (.ref 67), some (.int (v3))], [.long (w0)], (hp M J R c e nL xs D)) =
    cond (px_inb ((v3 + 1)) nL)
    (cond (px_inb ((v3 + 2)) nL)
    (px_bd (X 179 [.ref 67, .int ((xs (Int32.toNatClampNeg ((v3 + 1))))), .int ((xs (Int32.toNatClampNeg ((v3 + 2)))))] (hp M J R c e nL xs D))
    (fun v G1 => px_p (kL_law X) 376 24 ([some (.ref 0), some (.ref 13), some (.ref 67), some (.int (v3))], px_psh v [.long (w0)], G1))) none) none := rfl
set_option maxRecDepth 40000 in
theorem eL_law_353_7 (X : px_X) (M : Nat → Nat → Int32) (J : Nat → Nat → Int64) (R : Nat → Nat → Option Nat) (c e : Nat) (nL : Nat) (xs : Nat → Int32) (D : px_H) (v3 : Int32) (w0 : Int32) : px_p (kL_law X) 353 7 ([some (.ref 0), some (.ref 13), some (.ref 67), some (.int (v3))], [.int (w0)], (hp M J R c e nL xs D)) =
    cond (px_inb ((v3 + 1)) nL)
    (px_bd (X 172 [.ref 67, .int ((xs (Int32.toNatClampNeg ((v3 + 1)))))] (hp M J R c e nL xs D))
    (fun v G1 => px_p (kL_law X) 353 14 ([some (.ref 0), some (.ref 13), some (.ref 67), some (.int (v3))], px_psh v [.int (w0)], G1))) none := rfl
set_option maxRecDepth 40000 in
theorem eL_law_310_17 (X : px_X) (M : Nat → Nat → Int32) (J : Nat → Nat → Int64) (R : Nat → Nat → Option Nat) (c e : Nat) (nL : Nat) (xs : Nat → Int32) (D : px_H) (v3 : Int32) (w0 : Int32) : px_p (kL_law X) 310 17 ([some (.ref 0), some (.ref 13), some (.ref 67), some (.int (v3))], [.int (w0)], (hp M J R c e nL xs D)) =
    cond (px_inb ((v3 + 1)) nL)
    (cond (px_inb ((v3 + 2)) nL)
    (cond (px_inb ((v3 + 3)) nL)
    (px_bd (X 171 [.ref 67, .int ((xs (Int32.toNatClampNeg ((v3 + 1))))), .int ((xs (Int32.toNatClampNeg ((v3 + 2))))), .int ((xs (Int32.toNatClampNeg ((v3 + 3)))))] (hp M J R c e nL xs D))
    (fun v G1 => px_p (kL_law X) 310 34 ([some (.ref 0), some (.ref 13), some (.ref 67), some (.int (v3))], px_psh v [.int (w0)], G1))) none) none) none := rfl
set_option maxRecDepth 40000 in
theorem eL_law_267_17 (X : px_X) (M : Nat → Nat → Int32) (J : Nat → Nat → Int64) (R : Nat → Nat → Option Nat) (c e : Nat) (nL : Nat) (xs : Nat → Int32) (D : px_H) (v3 : Int32) (w0 : Int32) : px_p (kL_law X) 267 17 ([some (.ref 0), some (.ref 13), some (.ref 67), some (.int (v3))], [.int (w0)], (hp M J R c e nL xs D)) =
    cond (px_inb ((v3 + 1)) nL)
    (cond (px_inb ((v3 + 2)) nL)
    (cond (px_inb ((v3 + 3)) nL)
    (px_bd (X 170 [.ref 67, .int ((xs (Int32.toNatClampNeg ((v3 + 1))))), .int ((xs (Int32.toNatClampNeg ((v3 + 2))))), .int ((xs (Int32.toNatClampNeg ((v3 + 3)))))] (hp M J R c e nL xs D))
    (fun v G1 => px_p (kL_law X) 267 34 ([some (.ref 0), some (.ref 13), some (.ref 67), some (.int (v3))], px_psh v [.int (w0)], G1))) none) none) none := rfl
set_option maxRecDepth 40000 in
theorem eL_law_231 (X : px_X) (M : Nat → Nat → Int32) (J : Nat → Nat → Int64) (R : Nat → Nat → Option Nat) (c e : Nat) (nL : Nat) (xs : Nat → Int32) (D : px_H) (v3 : Int32) (w1 : Int32) (w2 : Int32) : px_run (px_mk (kL_law X)) 231 ([some (.ref 0), some (.ref 13), some (.ref 67), some (.int (v3))], [.int (w2), .int (w1), .ref 13], (hp M J R c e nL xs D)) =
    px_run (px_mk (kL_law X)) 232 ([some (.ref 0), some (.ref 13), some (.ref 67), some (.int (v3))], [.int (0), .int (w2), .int (w1), .ref 13], (hp M J R c e nL xs D)) := (px_run_eq _ _ _).trans rfl
set_option maxRecDepth 40000 in
theorem eL_law_232 (X : px_X) (M : Nat → Nat → Int32) (J : Nat → Nat → Int64) (R : Nat → Nat → Option Nat) (c e : Nat) (nL : Nat) (xs : Nat → Int32) (D : px_H) (v3 : Int32) (w1 : Int32) (w2 : Int32) (w3 : Int32) : px_run (px_mk (kL_law X)) 232 ([some (.ref 0), some (.ref 13), some (.ref 67), some (.int (v3))], [.int (w3), .int (w2), .int (w1), .ref 13], (hp M J R c e nL xs D)) =
    px_bd (X 121 [.ref 13, .int (w1), .int (w2), .int (w3)] (hp M J R c e nL xs D))
    (fun v G1 => px_p (kL_law X) 232 1 ([some (.ref 0), some (.ref 13), some (.ref 67), some (.int (v3))], px_psh v [], G1)) := (px_run_eq _ _ _).trans rfl
set_option maxRecDepth 40000 in
theorem eL_law_1535_24 (X : px_X) (M : Nat → Nat → Int32) (J : Nat → Nat → Int64) (R : Nat → Nat → Option Nat) (c e : Nat) (nL : Nat) (xs : Nat → Int32) (D : px_H) (v3 : Int32) (w0 : Int32) (w1 : Int32) : px_p (kL_law X) 1535 24 ([some (.ref 0), some (.ref 13), some (.ref 67), some (.int (v3))], [.int (w1), .int (w0)], (hp M J R c e nL xs D)) =
    cond (decide (w0 = w1))
    (px_run (px_mk (kL_law X)) 1568 ([some (.ref 0), some (.ref 13), some (.ref 67), some (.int (v3))], [], (hp M J R c e nL xs D)))
    (some (some (.int (0)), (hp M J R c e nL xs D))) := rfl
set_option maxRecDepth 40000 in
theorem eL_law_1502_24 (X : px_X) (M : Nat → Nat → Int32) (J : Nat → Nat → Int64) (R : Nat → Nat → Option Nat) (c e : Nat) (nL : Nat) (xs : Nat → Int32) (D : px_H) (v3 : Int32) (w0 : Int32) (w1 : Int32) : px_p (kL_law X) 1502 24 ([some (.ref 0), some (.ref 13), some (.ref 67), some (.int (v3))], [.int (w1), .int (w0)], (hp M J R c e nL xs D)) =
    cond (decide (w0 = w1))
    (px_run (px_mk (kL_law X)) 1568 ([some (.ref 0), some (.ref 13), some (.ref 67), some (.int (v3))], [], (hp M J R c e nL xs D)))
    (some (some (.int (0)), (hp M J R c e nL xs D))) := rfl
set_option maxRecDepth 40000 in
theorem eL_law_1459_34 (X : px_X) (M : Nat → Nat → Int32) (J : Nat → Nat → Int64) (R : Nat → Nat → Option Nat) (c e : Nat) (nL : Nat) (xs : Nat → Int32) (D : px_H) (v3 : Int32) (w0 : Int32) (w1 : Int32) : px_p (kL_law X) 1459 34 ([some (.ref 0), some (.ref 13), some (.ref 67), some (.int (v3))], [.int (w1), .int (w0)], (hp M J R c e nL xs D)) =
    cond (decide (w0 = w1))
    (px_run (px_mk (kL_law X)) 1568 ([some (.ref 0), some (.ref 13), some (.ref 67), some (.int (v3))], [], (hp M J R c e nL xs D)))
    (some (some (.int (0)), (hp M J R c e nL xs D))) := rfl
set_option maxRecDepth 40000 in
theorem eL_law_1416_34 (X : px_X) (M : Nat → Nat → Int32) (J : Nat → Nat → Int64) (R : Nat → Nat → Option Nat) (c e : Nat) (nL : Nat) (xs : Nat → Int32) (D : px_H) (v3 : Int32) (w0 : Int32) (w1 : Int32) : px_p (kL_law X) 1416 34 ([some (.ref 0), some (.ref 13), some (.ref 67), some (.int (v3))], [.int (w1), .int (w0)], (hp M J R c e nL xs D)) =
    cond (decide (w0 = w1))
    (px_run (px_mk (kL_law X)) 1568 ([some (.ref 0), some (.ref 13), some (.ref 67), some (.int (v3))], [], (hp M J R c e nL xs D)))
    (some (some (.int (0)), (hp M J R c e nL xs D))) := rfl
set_option maxRecDepth 40000 in
theorem eL_law_1393_14 (X : px_X) (M : Nat → Nat → Int32) (J : Nat → Nat → Int64) (R : Nat → Nat → Option Nat) (c e : Nat) (nL : Nat) (xs : Nat → Int32) (D : px_H) (v3 : Int32) (w0 : Int32) (w1 : Int32) : px_p (kL_law X) 1393 14 ([some (.ref 0), some (.ref 13), some (.ref 67), some (.int (v3))], [.int (w1), .int (w0)], (hp M J R c e nL xs D)) =
    cond (decide (w0 = w1))
    (px_run (px_mk (kL_law X)) 1568 ([some (.ref 0), some (.ref 13), some (.ref 67), some (.int (v3))], [], (hp M J R c e nL xs D)))
    (some (some (.int (0)), (hp M J R c e nL xs D))) := rfl
set_option maxRecDepth 40000 in
theorem eL_law_1360_24 (X : px_X) (M : Nat → Nat → Int32) (J : Nat → Nat → Int64) (R : Nat → Nat → Option Nat) (c e : Nat) (nL : Nat) (xs : Nat → Int32) (D : px_H) (v3 : Int32) (w0 : Int32) (w1 : Int32) : px_p (kL_law X) 1360 24 ([some (.ref 0), some (.ref 13), some (.ref 67), some (.int (v3))], [.int (w1), .int (w0)], (hp M J R c e nL xs D)) =
    cond (decide (w0 = w1))
    (px_run (px_mk (kL_law X)) 1568 ([some (.ref 0), some (.ref 13), some (.ref 67), some (.int (v3))], [], (hp M J R c e nL xs D)))
    (some (some (.int (0)), (hp M J R c e nL xs D))) := rfl
set_option maxRecDepth 40000 in
theorem eL_law_1337_14 (X : px_X) (M : Nat → Nat → Int32) (J : Nat → Nat → Int64) (R : Nat → Nat → Option Nat) (c e : Nat) (nL : Nat) (xs : Nat → Int32) (D : px_H) (v3 : Int32) (w0 : Int32) (w1 : Int32) : px_p (kL_law X) 1337 14 ([some (.ref 0), some (.ref 13), some (.ref 67), some (.int (v3))], [.int (w1), .int (w0)], (hp M J R c e nL xs D)) =
    cond (decide (w0 = w1))
    (px_run (px_mk (kL_law X)) 1568 ([some (.ref 0), some (.ref 13), some (.ref 67), some (.int (v3))], [], (hp M J R c e nL xs D)))
    (some (some (.int (0)), (hp M J R c e nL xs D))) := rfl
set_option maxRecDepth 40000 in
theorem eL_law_1314_14 (X : px_X) (M : Nat → Nat → Int32) (J : Nat → Nat → Int64) (R : Nat → Nat → Option Nat) (c e : Nat) (nL : Nat) (xs : Nat → Int32) (D : px_H) (v3 : Int32) (w0 : Int32) (w1 : Int32) : px_p (kL_law X) 1314 14 ([some (.ref 0), some (.ref 13), some (.ref 67), some (.int (v3))], [.int (w1), .int (w0)], (hp M J R c e nL xs D)) =
    cond (decide (w0 = w1))
    (px_run (px_mk (kL_law X)) 1568 ([some (.ref 0), some (.ref 13), some (.ref 67), some (.int (v3))], [], (hp M J R c e nL xs D)))
    (some (some (.int (0)), (hp M J R c e nL xs D))) := rfl
set_option maxRecDepth 40000 in
theorem eL_law_1291_14 (X : px_X) (M : Nat → Nat → Int32) (J : Nat → Nat → Int64) (R : Nat → Nat → Option Nat) (c e : Nat) (nL : Nat) (xs : Nat → Int32) (D : px_H) (v3 : Int32) (w0 : Int32) (w1 : Int32) : px_p (kL_law X) 1291 14 ([some (.ref 0), some (.ref 13), some (.ref 67), some (.int (v3))], [.int (w1), .int (w0)], (hp M J R c e nL xs D)) =
    cond (decide (w0 = w1))
    (px_run (px_mk (kL_law X)) 1568 ([some (.ref 0), some (.ref 13), some (.ref 67), some (.int (v3))], [], (hp M J R c e nL xs D)))
    (some (some (.int (0)), (hp M J R c e nL xs D))) := rfl
set_option maxRecDepth 40000 in
theorem eL_law_1268_14 (X : px_X) (M : Nat → Nat → Int32) (J : Nat → Nat → Int64) (R : Nat → Nat → Option Nat) (c e : Nat) (nL : Nat) (xs : Nat → Int32) (D : px_H) (v3 : Int32) (w0 : Int32) (w1 : Int32) : px_p (kL_law X) 1268 14 ([some (.ref 0), some (.ref 13), some (.ref 67), some (.int (v3))], [.int (w1), .int (w0)], (hp M J R c e nL xs D)) =
    cond (decide (w0 = w1))
    (px_run (px_mk (kL_law X)) 1568 ([some (.ref 0), some (.ref 13), some (.ref 67), some (.int (v3))], [], (hp M J R c e nL xs D)))
    (some (some (.int (0)), (hp M J R c e nL xs D))) := rfl
set_option maxRecDepth 40000 in
theorem eL_law_1255_4 (X : px_X) (M : Nat → Nat → Int32) (J : Nat → Nat → Int64) (R : Nat → Nat → Option Nat) (c e : Nat) (nL : Nat) (xs : Nat → Int32) (D : px_H) (v3 : Int32) (w0 : Int32) (w1 : Int32) : px_p (kL_law X) 1255 4 ([some (.ref 0), some (.ref 13), some (.ref 67), some (.int (v3))], [.int (w1), .int (w0)], (hp M J R c e nL xs D)) =
    cond (decide (w0 = w1))
    (px_run (px_mk (kL_law X)) 1568 ([some (.ref 0), some (.ref 13), some (.ref 67), some (.int (v3))], [], (hp M J R c e nL xs D)))
    (some (some (.int (0)), (hp M J R c e nL xs D))) := rfl
set_option maxRecDepth 40000 in
theorem eL_law_1232_14 (X : px_X) (M : Nat → Nat → Int32) (J : Nat → Nat → Int64) (R : Nat → Nat → Option Nat) (c e : Nat) (nL : Nat) (xs : Nat → Int32) (D : px_H) (v3 : Int32) (w0 : Int32) (w1 : Int32) : px_p (kL_law X) 1232 14 ([some (.ref 0), some (.ref 13), some (.ref 67), some (.int (v3))], [.int (w1), .int (w0)], (hp M J R c e nL xs D)) =
    cond (decide (w0 = w1))
    (px_run (px_mk (kL_law X)) 1568 ([some (.ref 0), some (.ref 13), some (.ref 67), some (.int (v3))], [], (hp M J R c e nL xs D)))
    (some (some (.int (0)), (hp M J R c e nL xs D))) := rfl
set_option maxRecDepth 40000 in
theorem eL_law_1199_24 (X : px_X) (M : Nat → Nat → Int32) (J : Nat → Nat → Int64) (R : Nat → Nat → Option Nat) (c e : Nat) (nL : Nat) (xs : Nat → Int32) (D : px_H) (v3 : Int32) (w0 : Int32) (w1 : Int32) : px_p (kL_law X) 1199 24 ([some (.ref 0), some (.ref 13), some (.ref 67), some (.int (v3))], [.int (w1), .int (w0)], (hp M J R c e nL xs D)) =
    cond (decide (w0 = w1))
    (px_run (px_mk (kL_law X)) 1568 ([some (.ref 0), some (.ref 13), some (.ref 67), some (.int (v3))], [], (hp M J R c e nL xs D)))
    (some (some (.int (0)), (hp M J R c e nL xs D))) := rfl
set_option maxRecDepth 40000 in
theorem eL_law_1176_14 (X : px_X) (M : Nat → Nat → Int32) (J : Nat → Nat → Int64) (R : Nat → Nat → Option Nat) (c e : Nat) (nL : Nat) (xs : Nat → Int32) (D : px_H) (v3 : Int32) (w0 : Int32) (w1 : Int32) : px_p (kL_law X) 1176 14 ([some (.ref 0), some (.ref 13), some (.ref 67), some (.int (v3))], [.int (w1), .int (w0)], (hp M J R c e nL xs D)) =
    cond (decide (w0 = w1))
    (px_run (px_mk (kL_law X)) 1568 ([some (.ref 0), some (.ref 13), some (.ref 67), some (.int (v3))], [], (hp M J R c e nL xs D)))
    (some (some (.int (0)), (hp M J R c e nL xs D))) := rfl
set_option maxRecDepth 40000 in
theorem eL_law_1153_14 (X : px_X) (M : Nat → Nat → Int32) (J : Nat → Nat → Int64) (R : Nat → Nat → Option Nat) (c e : Nat) (nL : Nat) (xs : Nat → Int32) (D : px_H) (v3 : Int32) (w0 : Int32) (w1 : Int32) : px_p (kL_law X) 1153 14 ([some (.ref 0), some (.ref 13), some (.ref 67), some (.int (v3))], [.int (w1), .int (w0)], (hp M J R c e nL xs D)) =
    cond (decide (w0 = w1))
    (px_run (px_mk (kL_law X)) 1568 ([some (.ref 0), some (.ref 13), some (.ref 67), some (.int (v3))], [], (hp M J R c e nL xs D)))
    (some (some (.int (0)), (hp M J R c e nL xs D))) := rfl
set_option maxRecDepth 40000 in
theorem eL_law_1110_34 (X : px_X) (M : Nat → Nat → Int32) (J : Nat → Nat → Int64) (R : Nat → Nat → Option Nat) (c e : Nat) (nL : Nat) (xs : Nat → Int32) (D : px_H) (v3 : Int32) (w0 : Int32) (w1 : Int32) : px_p (kL_law X) 1110 34 ([some (.ref 0), some (.ref 13), some (.ref 67), some (.int (v3))], [.int (w1), .int (w0)], (hp M J R c e nL xs D)) =
    cond (decide (w0 = w1))
    (px_run (px_mk (kL_law X)) 1568 ([some (.ref 0), some (.ref 13), some (.ref 67), some (.int (v3))], [], (hp M J R c e nL xs D)))
    (some (some (.int (0)), (hp M J R c e nL xs D))) := rfl
set_option maxRecDepth 40000 in
theorem eL_law_1066_34 (X : px_X) (M : Nat → Nat → Int32) (J : Nat → Nat → Int64) (R : Nat → Nat → Option Nat) (c e : Nat) (nL : Nat) (xs : Nat → Int32) (D : px_H) (v3 : Int32) (w0 : Int64) (w1 : Int64) : px_p (kL_law X) 1066 34 ([some (.ref 0), some (.ref 13), some (.ref 67), some (.int (v3))], [.long (w1), .long (w0)], (hp M J R c e nL xs D)) =
    cond (decide ((lg_cmp w0 w1) = 0))
    (px_run (px_mk (kL_law X)) 1568 ([some (.ref 0), some (.ref 13), some (.ref 67), some (.int (v3))], [], (hp M J R c e nL xs D)))
    (some (some (.int (0)), (hp M J R c e nL xs D))) := rfl
set_option maxRecDepth 40000 in
theorem eL_law_1053_4 (X : px_X) (M : Nat → Nat → Int32) (J : Nat → Nat → Int64) (R : Nat → Nat → Option Nat) (c e : Nat) (nL : Nat) (xs : Nat → Int32) (D : px_H) (v3 : Int32) (w0 : Int32) (w1 : Int32) : px_p (kL_law X) 1053 4 ([some (.ref 0), some (.ref 13), some (.ref 67), some (.int (v3))], [.int (w1), .int (w0)], (hp M J R c e nL xs D)) =
    cond (decide (w0 = w1))
    (px_run (px_mk (kL_law X)) 1568 ([some (.ref 0), some (.ref 13), some (.ref 67), some (.int (v3))], [], (hp M J R c e nL xs D)))
    (some (some (.int (0)), (hp M J R c e nL xs D))) := rfl
set_option maxRecDepth 40000 in
theorem eL_law_990_48 (X : px_X) (M : Nat → Nat → Int32) (J : Nat → Nat → Int64) (R : Nat → Nat → Option Nat) (c e : Nat) (nL : Nat) (xs : Nat → Int32) (D : px_H) (v3 : Int32) (w0 : Int32) (w1 : Int32) : px_p (kL_law X) 990 48 ([some (.ref 0), some (.ref 13), some (.ref 67), some (.int (v3))], [.int (w1), .int (w0)], (hp M J R c e nL xs D)) =
    cond (decide (w0 = w1))
    (px_run (px_mk (kL_law X)) 1568 ([some (.ref 0), some (.ref 13), some (.ref 67), some (.int (v3))], [], (hp M J R c e nL xs D)))
    (some (some (.int (0)), (hp M J R c e nL xs D))) := rfl
set_option maxRecDepth 40000 in
theorem eL_law_927_54 (X : px_X) (M : Nat → Nat → Int32) (J : Nat → Nat → Int64) (R : Nat → Nat → Option Nat) (c e : Nat) (nL : Nat) (xs : Nat → Int32) (D : px_H) (v3 : Int32) (w0 : Int32) (w1 : Int32) : px_p (kL_law X) 927 54 ([some (.ref 0), some (.ref 13), some (.ref 67), some (.int (v3))], [.int (w1), .int (w0)], (hp M J R c e nL xs D)) =
    cond (decide (w0 = w1))
    (px_run (px_mk (kL_law X)) 1568 ([some (.ref 0), some (.ref 13), some (.ref 67), some (.int (v3))], [], (hp M J R c e nL xs D)))
    (some (some (.int (0)), (hp M J R c e nL xs D))) := rfl
set_option maxRecDepth 40000 in
theorem eL_law_894_24 (X : px_X) (M : Nat → Nat → Int32) (J : Nat → Nat → Int64) (R : Nat → Nat → Option Nat) (c e : Nat) (nL : Nat) (xs : Nat → Int32) (D : px_H) (v3 : Int32) (w0 : Int32) (w1 : Int32) : px_p (kL_law X) 894 24 ([some (.ref 0), some (.ref 13), some (.ref 67), some (.int (v3))], [.int (w1), .int (w0)], (hp M J R c e nL xs D)) =
    cond (decide (w0 = w1))
    (px_run (px_mk (kL_law X)) 1568 ([some (.ref 0), some (.ref 13), some (.ref 67), some (.int (v3))], [], (hp M J R c e nL xs D)))
    (some (some (.int (0)), (hp M J R c e nL xs D))) := rfl
set_option maxRecDepth 40000 in
theorem eL_law_881_4 (X : px_X) (M : Nat → Nat → Int32) (J : Nat → Nat → Int64) (R : Nat → Nat → Option Nat) (c e : Nat) (nL : Nat) (xs : Nat → Int32) (D : px_H) (v3 : Int32) (w0 : Int32) (w1 : Int32) : px_p (kL_law X) 881 4 ([some (.ref 0), some (.ref 13), some (.ref 67), some (.int (v3))], [.int (w1), .int (w0)], (hp M J R c e nL xs D)) =
    cond (decide (w0 = w1))
    (px_run (px_mk (kL_law X)) 1568 ([some (.ref 0), some (.ref 13), some (.ref 67), some (.int (v3))], [], (hp M J R c e nL xs D)))
    (some (some (.int (0)), (hp M J R c e nL xs D))) := rfl
set_option maxRecDepth 40000 in
theorem eL_law_818_54 (X : px_X) (M : Nat → Nat → Int32) (J : Nat → Nat → Int64) (R : Nat → Nat → Option Nat) (c e : Nat) (nL : Nat) (xs : Nat → Int32) (D : px_H) (v3 : Int32) (w0 : Int32) (w1 : Int32) : px_p (kL_law X) 818 54 ([some (.ref 0), some (.ref 13), some (.ref 67), some (.int (v3))], [.int (w1), .int (w0)], (hp M J R c e nL xs D)) =
    cond (decide (w0 = w1))
    (px_run (px_mk (kL_law X)) 1568 ([some (.ref 0), some (.ref 13), some (.ref 67), some (.int (v3))], [], (hp M J R c e nL xs D)))
    (some (some (.int (0)), (hp M J R c e nL xs D))) := rfl
set_option maxRecDepth 40000 in
theorem eL_law_775_34 (X : px_X) (M : Nat → Nat → Int32) (J : Nat → Nat → Int64) (R : Nat → Nat → Option Nat) (c e : Nat) (nL : Nat) (xs : Nat → Int32) (D : px_H) (v3 : Int32) (w0 : Int32) (w1 : Int32) : px_p (kL_law X) 775 34 ([some (.ref 0), some (.ref 13), some (.ref 67), some (.int (v3))], [.int (w1), .int (w0)], (hp M J R c e nL xs D)) =
    cond (decide (w0 = w1))
    (px_run (px_mk (kL_law X)) 1568 ([some (.ref 0), some (.ref 13), some (.ref 67), some (.int (v3))], [], (hp M J R c e nL xs D)))
    (some (some (.int (0)), (hp M J R c e nL xs D))) := rfl
set_option maxRecDepth 40000 in
theorem eL_law_762_4 (X : px_X) (M : Nat → Nat → Int32) (J : Nat → Nat → Int64) (R : Nat → Nat → Option Nat) (c e : Nat) (nL : Nat) (xs : Nat → Int32) (D : px_H) (v3 : Int32) (w0 : Int32) (w1 : Int32) : px_p (kL_law X) 762 4 ([some (.ref 0), some (.ref 13), some (.ref 67), some (.int (v3))], [.int (w1), .int (w0)], (hp M J R c e nL xs D)) =
    cond (decide (w0 = w1))
    (px_run (px_mk (kL_law X)) 1568 ([some (.ref 0), some (.ref 13), some (.ref 67), some (.int (v3))], [], (hp M J R c e nL xs D)))
    (some (some (.int (0)), (hp M J R c e nL xs D))) := rfl
set_option maxRecDepth 40000 in
theorem eL_law_729_24 (X : px_X) (M : Nat → Nat → Int32) (J : Nat → Nat → Int64) (R : Nat → Nat → Option Nat) (c e : Nat) (nL : Nat) (xs : Nat → Int32) (D : px_H) (v3 : Int32) (w0 : Int32) (w1 : Int32) : px_p (kL_law X) 729 24 ([some (.ref 0), some (.ref 13), some (.ref 67), some (.int (v3))], [.int (w1), .int (w0)], (hp M J R c e nL xs D)) =
    cond (decide (w0 = w1))
    (px_run (px_mk (kL_law X)) 1568 ([some (.ref 0), some (.ref 13), some (.ref 67), some (.int (v3))], [], (hp M J R c e nL xs D)))
    (some (some (.int (0)), (hp M J R c e nL xs D))) := rfl
set_option maxRecDepth 40000 in
theorem eL_law_686_34 (X : px_X) (M : Nat → Nat → Int32) (J : Nat → Nat → Int64) (R : Nat → Nat → Option Nat) (c e : Nat) (nL : Nat) (xs : Nat → Int32) (D : px_H) (v3 : Int32) (w0 : Int32) (w1 : Int32) : px_p (kL_law X) 686 34 ([some (.ref 0), some (.ref 13), some (.ref 67), some (.int (v3))], [.int (w1), .int (w0)], (hp M J R c e nL xs D)) =
    cond (decide (w0 = w1))
    (px_run (px_mk (kL_law X)) 1568 ([some (.ref 0), some (.ref 13), some (.ref 67), some (.int (v3))], [], (hp M J R c e nL xs D)))
    (some (some (.int (0)), (hp M J R c e nL xs D))) := rfl
set_option maxRecDepth 40000 in
theorem eL_law_643_34 (X : px_X) (M : Nat → Nat → Int32) (J : Nat → Nat → Int64) (R : Nat → Nat → Option Nat) (c e : Nat) (nL : Nat) (xs : Nat → Int32) (D : px_H) (v3 : Int32) (w0 : Int32) (w1 : Int32) : px_p (kL_law X) 643 34 ([some (.ref 0), some (.ref 13), some (.ref 67), some (.int (v3))], [.int (w1), .int (w0)], (hp M J R c e nL xs D)) =
    cond (decide (w0 = w1))
    (px_run (px_mk (kL_law X)) 1568 ([some (.ref 0), some (.ref 13), some (.ref 67), some (.int (v3))], [], (hp M J R c e nL xs D)))
    (some (some (.int (0)), (hp M J R c e nL xs D))) := rfl
set_option maxRecDepth 40000 in
theorem eL_law_610_24 (X : px_X) (M : Nat → Nat → Int32) (J : Nat → Nat → Int64) (R : Nat → Nat → Option Nat) (c e : Nat) (nL : Nat) (xs : Nat → Int32) (D : px_H) (v3 : Int32) (w0 : Int32) (w1 : Int32) : px_p (kL_law X) 610 24 ([some (.ref 0), some (.ref 13), some (.ref 67), some (.int (v3))], [.int (w1), .int (w0)], (hp M J R c e nL xs D)) =
    cond (decide (w0 = w1))
    (px_run (px_mk (kL_law X)) 1568 ([some (.ref 0), some (.ref 13), some (.ref 67), some (.int (v3))], [], (hp M J R c e nL xs D)))
    (some (some (.int (0)), (hp M J R c e nL xs D))) := rfl
set_option maxRecDepth 40000 in
theorem eL_law_577_24 (X : px_X) (M : Nat → Nat → Int32) (J : Nat → Nat → Int64) (R : Nat → Nat → Option Nat) (c e : Nat) (nL : Nat) (xs : Nat → Int32) (D : px_H) (v3 : Int32) (w0 : Int32) (w1 : Int32) : px_p (kL_law X) 577 24 ([some (.ref 0), some (.ref 13), some (.ref 67), some (.int (v3))], [.int (w1), .int (w0)], (hp M J R c e nL xs D)) =
    cond (decide (w0 = w1))
    (px_run (px_mk (kL_law X)) 1568 ([some (.ref 0), some (.ref 13), some (.ref 67), some (.int (v3))], [], (hp M J R c e nL xs D)))
    (some (some (.int (0)), (hp M J R c e nL xs D))) := rfl
set_option maxRecDepth 40000 in
theorem eL_law_544_24 (X : px_X) (M : Nat → Nat → Int32) (J : Nat → Nat → Int64) (R : Nat → Nat → Option Nat) (c e : Nat) (nL : Nat) (xs : Nat → Int32) (D : px_H) (v3 : Int32) (w0 : Int32) (w1 : Int32) : px_p (kL_law X) 544 24 ([some (.ref 0), some (.ref 13), some (.ref 67), some (.int (v3))], [.int (w1), .int (w0)], (hp M J R c e nL xs D)) =
    cond (decide (w0 = w1))
    (px_run (px_mk (kL_law X)) 1568 ([some (.ref 0), some (.ref 13), some (.ref 67), some (.int (v3))], [], (hp M J R c e nL xs D)))
    (some (some (.int (0)), (hp M J R c e nL xs D))) := rfl
set_option maxRecDepth 40000 in
theorem eL_law_511_24 (X : px_X) (M : Nat → Nat → Int32) (J : Nat → Nat → Int64) (R : Nat → Nat → Option Nat) (c e : Nat) (nL : Nat) (xs : Nat → Int32) (D : px_H) (v3 : Int32) (w0 : Int32) (w1 : Int32) : px_p (kL_law X) 511 24 ([some (.ref 0), some (.ref 13), some (.ref 67), some (.int (v3))], [.int (w1), .int (w0)], (hp M J R c e nL xs D)) =
    cond (decide (w0 = w1))
    (px_run (px_mk (kL_law X)) 1568 ([some (.ref 0), some (.ref 13), some (.ref 67), some (.int (v3))], [], (hp M J R c e nL xs D)))
    (some (some (.int (0)), (hp M J R c e nL xs D))) := rfl
set_option maxRecDepth 40000 in
theorem eL_law_458_44 (X : px_X) (M : Nat → Nat → Int32) (J : Nat → Nat → Int64) (R : Nat → Nat → Option Nat) (c e : Nat) (nL : Nat) (xs : Nat → Int32) (D : px_H) (v3 : Int32) (w0 : Int32) (w1 : Int32) : px_p (kL_law X) 458 44 ([some (.ref 0), some (.ref 13), some (.ref 67), some (.int (v3))], [.int (w1), .int (w0)], (hp M J R c e nL xs D)) =
    cond (decide (w0 = w1))
    (px_run (px_mk (kL_law X)) 1568 ([some (.ref 0), some (.ref 13), some (.ref 67), some (.int (v3))], [], (hp M J R c e nL xs D)))
    (some (some (.int (0)), (hp M J R c e nL xs D))) := rfl
set_option maxRecDepth 40000 in
theorem eL_law_444_4 (X : px_X) (M : Nat → Nat → Int32) (J : Nat → Nat → Int64) (R : Nat → Nat → Option Nat) (c e : Nat) (nL : Nat) (xs : Nat → Int32) (D : px_H) (v3 : Int32) (w0 : Int64) (w1 : Int64) : px_p (kL_law X) 444 4 ([some (.ref 0), some (.ref 13), some (.ref 67), some (.int (v3))], [.long (w1), .long (w0)], (hp M J R c e nL xs D)) =
    cond (decide ((lg_cmp w0 w1) = 0))
    (px_run (px_mk (kL_law X)) 1568 ([some (.ref 0), some (.ref 13), some (.ref 67), some (.int (v3))], [], (hp M J R c e nL xs D)))
    (some (some (.int (0)), (hp M J R c e nL xs D))) := rfl
set_option maxRecDepth 40000 in
theorem eL_law_410_24 (X : px_X) (M : Nat → Nat → Int32) (J : Nat → Nat → Int64) (R : Nat → Nat → Option Nat) (c e : Nat) (nL : Nat) (xs : Nat → Int32) (D : px_H) (v3 : Int32) (w0 : Int64) (w1 : Int64) : px_p (kL_law X) 410 24 ([some (.ref 0), some (.ref 13), some (.ref 67), some (.int (v3))], [.long (w1), .long (w0)], (hp M J R c e nL xs D)) =
    cond (decide ((lg_cmp w0 w1) = 0))
    (px_run (px_mk (kL_law X)) 1568 ([some (.ref 0), some (.ref 13), some (.ref 67), some (.int (v3))], [], (hp M J R c e nL xs D)))
    (some (some (.int (0)), (hp M J R c e nL xs D))) := rfl
set_option maxRecDepth 40000 in
theorem eL_law_376_24 (X : px_X) (M : Nat → Nat → Int32) (J : Nat → Nat → Int64) (R : Nat → Nat → Option Nat) (c e : Nat) (nL : Nat) (xs : Nat → Int32) (D : px_H) (v3 : Int32) (w0 : Int64) (w1 : Int64) : px_p (kL_law X) 376 24 ([some (.ref 0), some (.ref 13), some (.ref 67), some (.int (v3))], [.long (w1), .long (w0)], (hp M J R c e nL xs D)) =
    cond (decide ((lg_cmp w0 w1) = 0))
    (px_run (px_mk (kL_law X)) 1568 ([some (.ref 0), some (.ref 13), some (.ref 67), some (.int (v3))], [], (hp M J R c e nL xs D)))
    (some (some (.int (0)), (hp M J R c e nL xs D))) := rfl
set_option maxRecDepth 40000 in
theorem eL_law_353_14 (X : px_X) (M : Nat → Nat → Int32) (J : Nat → Nat → Int64) (R : Nat → Nat → Option Nat) (c e : Nat) (nL : Nat) (xs : Nat → Int32) (D : px_H) (v3 : Int32) (w0 : Int32) (w1 : Int32) : px_p (kL_law X) 353 14 ([some (.ref 0), some (.ref 13), some (.ref 67), some (.int (v3))], [.int (w1), .int (w0)], (hp M J R c e nL xs D)) =
    cond (decide (w0 = w1))
    (px_run (px_mk (kL_law X)) 1568 ([some (.ref 0), some (.ref 13), some (.ref 67), some (.int (v3))], [], (hp M J R c e nL xs D)))
    (some (some (.int (0)), (hp M J R c e nL xs D))) := rfl
set_option maxRecDepth 40000 in
theorem eL_law_310_34 (X : px_X) (M : Nat → Nat → Int32) (J : Nat → Nat → Int64) (R : Nat → Nat → Option Nat) (c e : Nat) (nL : Nat) (xs : Nat → Int32) (D : px_H) (v3 : Int32) (w0 : Int32) (w1 : Int32) : px_p (kL_law X) 310 34 ([some (.ref 0), some (.ref 13), some (.ref 67), some (.int (v3))], [.int (w1), .int (w0)], (hp M J R c e nL xs D)) =
    cond (decide (w0 = w1))
    (px_run (px_mk (kL_law X)) 1568 ([some (.ref 0), some (.ref 13), some (.ref 67), some (.int (v3))], [], (hp M J R c e nL xs D)))
    (some (some (.int (0)), (hp M J R c e nL xs D))) := rfl
set_option maxRecDepth 40000 in
theorem eL_law_267_34 (X : px_X) (M : Nat → Nat → Int32) (J : Nat → Nat → Int64) (R : Nat → Nat → Option Nat) (c e : Nat) (nL : Nat) (xs : Nat → Int32) (D : px_H) (v3 : Int32) (w0 : Int32) (w1 : Int32) : px_p (kL_law X) 267 34 ([some (.ref 0), some (.ref 13), some (.ref 67), some (.int (v3))], [.int (w1), .int (w0)], (hp M J R c e nL xs D)) =
    cond (decide (w0 = w1))
    (px_run (px_mk (kL_law X)) 1568 ([some (.ref 0), some (.ref 13), some (.ref 67), some (.int (v3))], [], (hp M J R c e nL xs D)))
    (some (some (.int (0)), (hp M J R c e nL xs D))) := rfl
set_option maxRecDepth 40000 in
theorem eL_law_232_1 (X : px_X) (M : Nat → Nat → Int32) (J : Nat → Nat → Int64) (R : Nat → Nat → Option Nat) (c e : Nat) (nL : Nat) (xs : Nat → Int32) (D : px_H) (v3 : Int32) (w0 : Int32) : px_p (kL_law X) 232 1 ([some (.ref 0), some (.ref 13), some (.ref 67), some (.int (v3))], [.int (w0)], (hp M J R c e nL xs D)) =
    cond (px_inb ((v3 + 1)) nL)
    (cond (px_inb ((v3 + 2)) nL)
    (cond (px_inb ((v3 + 3)) nL)
    (cond (decide ((xs (Int32.toNatClampNeg ((v3 + 3)))) = 0))
    (px_run (px_mk (kL_law X)) 258 ([some (.ref 0), some (.ref 13), some (.ref 67), some (.int (v3))], [.int ((xs (Int32.toNatClampNeg ((v3 + 2))))), .int ((xs (Int32.toNatClampNeg ((v3 + 1))))), .ref 67, .int (w0)], (hp M J R c e nL xs D)))
    (px_run (px_mk (kL_law X)) 259 ([some (.ref 0), some (.ref 13), some (.ref 67), some (.int (v3))], [.int (1), .int ((xs (Int32.toNatClampNeg ((v3 + 2))))), .int ((xs (Int32.toNatClampNeg ((v3 + 1))))), .ref 67, .int (w0)], (hp M J R c e nL xs D)))) none) none) none := rfl
set_option maxRecDepth 40000 in
theorem eL_law_258 (X : px_X) (M : Nat → Nat → Int32) (J : Nat → Nat → Int64) (R : Nat → Nat → Option Nat) (c e : Nat) (nL : Nat) (xs : Nat → Int32) (D : px_H) (v3 : Int32) (w0 : Int32) (w2 : Int32) (w3 : Int32) : px_run (px_mk (kL_law X)) 258 ([some (.ref 0), some (.ref 13), some (.ref 67), some (.int (v3))], [.int (w3), .int (w2), .ref 67, .int (w0)], (hp M J R c e nL xs D)) =
    px_run (px_mk (kL_law X)) 259 ([some (.ref 0), some (.ref 13), some (.ref 67), some (.int (v3))], [.int (0), .int (w3), .int (w2), .ref 67, .int (w0)], (hp M J R c e nL xs D)) := (px_run_eq _ _ _).trans rfl
set_option maxRecDepth 40000 in
theorem eL_law_259 (X : px_X) (M : Nat → Nat → Int32) (J : Nat → Nat → Int64) (R : Nat → Nat → Option Nat) (c e : Nat) (nL : Nat) (xs : Nat → Int32) (D : px_H) (v3 : Int32) (w0 : Int32) (w2 : Int32) (w3 : Int32) (w4 : Int32) : px_run (px_mk (kL_law X)) 259 ([some (.ref 0), some (.ref 13), some (.ref 67), some (.int (v3))], [.int (w4), .int (w3), .int (w2), .ref 67, .int (w0)], (hp M J R c e nL xs D)) =
    px_bd (X 169 [.ref 67, .int (w2), .int (w3), .int (w4)] (hp M J R c e nL xs D))
    (fun v G1 => px_p (kL_law X) 259 1 ([some (.ref 0), some (.ref 13), some (.ref 67), some (.int (v3))], px_psh v [.int (w0)], G1)) := (px_run_eq _ _ _).trans rfl
set_option maxRecDepth 40000 in
theorem eL_law_259_1 (X : px_X) (M : Nat → Nat → Int32) (J : Nat → Nat → Int64) (R : Nat → Nat → Option Nat) (c e : Nat) (nL : Nat) (xs : Nat → Int32) (D : px_H) (v3 : Int32) (w0 : Int32) (w1 : Int32) : px_p (kL_law X) 259 1 ([some (.ref 0), some (.ref 13), some (.ref 67), some (.int (v3))], [.int (w1), .int (w0)], (hp M J R c e nL xs D)) =
    cond (decide (w0 = w1))
    (px_run (px_mk (kL_law X)) 1568 ([some (.ref 0), some (.ref 13), some (.ref 67), some (.int (v3))], [], (hp M J R c e nL xs D)))
    (some (some (.int (0)), (hp M J R c e nL xs D))) := rfl
