/-! block equations over the fixed layout (written by wip/whole/seg.py) -/
set_option maxRecDepth 40000 in
theorem eX12_word_0 (X : px_X) (M : Nat → Nat → Int32) (J : Nat → Nat → Int64) (R : Nat → Nat → Option Nat) (c e : Nat) (nL : Nat) (xs : Nat → Int32) (D : px_H)  : px_run (px_mk (kX12_word X)) 0 ([some (.ref 67), none, none, none, none], [], (hp M J R c e nL xs D)) =
    px_bd (X 208 [.ref 67, .int (M 67 57)] (hp M J R c e nL xs D))
    (fun v G1 => px_p (kX12_word X) 0 4 ([some (.ref 67), none, none, none, none], px_psh v [], G1)) := (px_run_eq _ _ _).trans rfl
set_option maxRecDepth 40000 in
theorem eX12_word_0_4 (X : px_X) (M : Nat → Nat → Int32) (J : Nat → Nat → Int64) (R : Nat → Nat → Option Nat) (c e : Nat) (nL : Nat) (xs : Nat → Int32) (D : px_H) (w0 : Int32) : px_p (kX12_word X) 0 4 ([some (.ref 67), none, none, none, none], [.int (w0)], (hp M J R c e nL xs D)) =
    px_bd (X 209 [.int (w0)] (hp M J R c e nL xs D))
    (fun v G1 => px_p (kX12_word X) 0 5 ([some (.ref 67), none, none, none, none], px_psh v [], G1)) := rfl
set_option maxRecDepth 40000 in
theorem eX12_word_0_5 (X : px_X) (M : Nat → Nat → Int32) (J : Nat → Nat → Int64) (R : Nat → Nat → Option Nat) (c e : Nat) (nL : Nat) (xs : Nat → Int32) (D : px_H) (w0 : Int32) : px_p (kX12_word X) 0 5 ([some (.ref 67), none, none, none, none], [.int (w0)], (hp M J R c e nL xs D)) =
    cond (decide (w0 = 0))
    (px_run (px_mk (kX12_word X)) 27 ([some (.ref 67), none, none, none, none], [], (hp M J R c e nL xs D)))
    (px_run (px_mk (kX12_word X)) 0 ([some (.ref 67), none, none, none, none], [], (hp (px_uR M 67 (upd (M 67) 57 ((M 67 57 + 1)))) J R c e nL xs D))) := rfl
set_option maxRecDepth 40000 in
theorem eX12_word_27 (X : px_X) (M : Nat → Nat → Int32) (J : Nat → Nat → Int64) (R : Nat → Nat → Option Nat) (c e : Nat) (nL : Nat) (xs : Nat → Int32) (D : px_H) (o1 : Option Value) (o2 : Option Value) (o3 : Option Value) (o4 : Option Value) : px_run (px_mk (kX12_word X)) 27 ([some (.ref 67), o1, o2, o3, o4], [], (hp M J R c e nL xs D)) =
    px_run (px_mk (kX12_word X)) 41 ([some (.ref 67), some (.int (0)), some (.int (0)), some (.int (1)), some (.int (0))], [], (hp (px_uR M 67 (upd (M 67) 59 (2))) J R c e nL xs D)) := (px_run_eq _ _ _).trans rfl
set_option maxRecDepth 40000 in
theorem eX12_word_41 (X : px_X) (M : Nat → Nat → Int32) (J : Nat → Nat → Int64) (R : Nat → Nat → Option Nat) (c e : Nat) (nL : Nat) (xs : Nat → Int32) (D : px_H) (v1 : Int32) (v2 : Int32) (v3 : Int32) (v4 : Int32) : px_run (px_mk (kX12_word X)) 41 ([some (.ref 67), some (.int (v1)), some (.int (v2)), some (.int (v3)), some (.int (v4))], [], (hp M J R c e nL xs D)) =
    cond (decide ((Int32.ofNat 39) ≤ v4))
    (px_run (px_mk (kX12_word X)) 167 ([some (.ref 67), some (.int (v1)), some (.int (v2)), some (.int (v3)), some (.int (v4))], [], (hp M J R c e nL xs D)))
    (cond (px_inb (v4) 39)
    (cond (decide (¬ ((M 106) (Int32.toNatClampNeg (v4))) = 0))
    (px_run (px_mk (kX12_word X)) 115 ([some (.ref 67), some (.int (v1)), some (.int (v2)), some (.int (v3)), some (.int (v4))], [], (hp M J R c e nL xs D)))
    (cond (decide (v3 = 0))
    (px_run (px_mk (kX12_word X)) 105 ([some (.ref 67), some (.int (v1)), some (.int (v2)), some (.int (v3)), some (.int (v4))], [], (hp M J R c e nL xs D)))
    (cond (decide (¬ v2 = (M 67 57 - M 67 58)))
    (px_run (px_mk (kX12_word X)) 105 ([some (.ref 67), some (.int (v1)), some (.int (v2)), some (.int (v3)), some (.int (v4))], [], (hp M J R c e nL xs D)))
    (cond (decide (6 ≤ v1))
    (px_run (px_mk (kX12_word X)) 89 ([some (.ref 67), some (.int (v1)), some (.int (v2)), some (.int (v3)), some (.int (v4))], [.ref 67], (hp M J R c e nL xs D)))
    (px_run (px_mk (kX12_word X)) 97 ([some (.ref 67), some (.int (v1)), some (.int (v2)), some (.int (v3)), some (.int (v4))], [.int (3), .ref 67], (hp M J R c e nL xs D))))))) none) := (px_run_eq _ _ _).trans rfl
set_option maxRecDepth 40000 in
theorem eX12_word_167 (X : px_X) (M : Nat → Nat → Int32) (J : Nat → Nat → Int64) (R : Nat → Nat → Option Nat) (c e : Nat) (nL : Nat) (xs : Nat → Int32) (D : px_H) (o0 : Option Value) (o1 : Option Value) (o2 : Option Value) (o3 : Option Value) (o4 : Option Value) : px_run (px_mk (kX12_word X)) 167 ([o0, o1, o2, o3, o4], [], (hp M J R c e nL xs D)) =
    some (none, (hp M J R c e nL xs D)) := (px_run_eq _ _ _).trans rfl
set_option maxRecDepth 40000 in
theorem eX12_word_115 (X : px_X) (M : Nat → Nat → Int32) (J : Nat → Nat → Int64) (R : Nat → Nat → Option Nat) (c e : Nat) (nL : Nat) (xs : Nat → Int32) (D : px_H) (v1 : Int32) (v2 : Int32) (v3 : Int32) (v4 : Int32) : px_run (px_mk (kX12_word X)) 115 ([some (.ref 67), some (.int (v1)), some (.int (v2)), some (.int (v3)), some (.int (v4))], [], (hp M J R c e nL xs D)) =
    cond (decide (v3 = 0))
    (px_run (px_mk (kX12_word X)) 156 ([some (.ref 67), some (.int (v1)), some (.int (v2)), some (.int (v3)), some (.int (v4))], [], (hp M J R c e nL xs D)))
    (px_bd (X 208 [.ref 67, .int ((M 67 58 + v2))] (hp M J R c e nL xs D))
    (fun v G1 => px_p (kX12_word X) 115 8 ([some (.ref 67), some (.int (v1)), some (.int (v2)), some (.int (v3)), some (.int (v4))], px_psh v [], G1))) := (px_run_eq _ _ _).trans rfl
set_option maxRecDepth 40000 in
theorem eX12_word_105 (X : px_X) (M : Nat → Nat → Int32) (J : Nat → Nat → Int64) (R : Nat → Nat → Option Nat) (c e : Nat) (nL : Nat) (xs : Nat → Int32) (D : px_H) (v1 : Int32) (o2 : Option Value) (o3 : Option Value) (v4 : Int32) : px_run (px_mk (kX12_word X)) 105 ([some (.ref 67), some (.int (v1)), o2, o3, some (.int (v4))], [], (hp M J R c e nL xs D)) =
    px_run (px_mk (kX12_word X)) 161 ([some (.ref 67), some (.int ((v1 + 1))), some (.int (0)), some (.int (1)), some (.int (v4))], [], (hp M J R c e nL xs D)) := (px_run_eq _ _ _).trans rfl
set_option maxRecDepth 40000 in
theorem eX12_word_89 (X : px_X) (M : Nat → Nat → Int32) (J : Nat → Nat → Int64) (R : Nat → Nat → Option Nat) (c e : Nat) (nL : Nat) (xs : Nat → Int32) (D : px_H) (v1 : Int32) (o2 : Option Value) (o3 : Option Value) (v4 : Int32) : px_run (px_mk (kX12_word X)) 89 ([some (.ref 67), some (.int (v1)), o2, o3, some (.int (v4))], [.ref 67], (hp M J R c e nL xs D)) =
    px_run (px_mk (kX12_word X)) 97 ([some (.ref 67), some (.int (v1)), none, none, some (.int (v4))], [.int (((300 + v1) - 6)), .ref 67], (hp M J R c e nL xs D)) := (px_run_eq _ _ _).trans rfl
set_option maxRecDepth 40000 in
theorem eX12_word_97 (X : px_X) (M : Nat → Nat → Int32) (J : Nat → Nat → Int64) (R : Nat → Nat → Option Nat) (c e : Nat) (nL : Nat) (xs : Nat → Int32) (D : px_H) (v1 : Int32) (o2 : Option Value) (o3 : Option Value) (v4 : Int32) (w1 : Int32) : px_run (px_mk (kX12_word X)) 97 ([some (.ref 67), some (.int (v1)), o2, o3, some (.int (v4))], [.int (w1), .ref 67], (hp M J R c e nL xs D)) =
    px_run (px_mk (kX12_word X)) 105 ([some (.ref 67), some (.int (v1)), none, none, some (.int (v4))], [], (hp (px_uR M 67 (upd (upd (M 67) 59 (w1)) 60 (v1))) J R c e nL xs D)) := (px_run_eq _ _ _).trans rfl
set_option maxRecDepth 40000 in
theorem eX12_word_156 (X : px_X) (M : Nat → Nat → Int32) (J : Nat → Nat → Int64) (R : Nat → Nat → Option Nat) (c e : Nat) (nL : Nat) (xs : Nat → Int32) (D : px_H) (v1 : Int32) (v2 : Int32) (o3 : Option Value) (v4 : Int32) : px_run (px_mk (kX12_word X)) 156 ([some (.ref 67), some (.int (v1)), some (.int (v2)), o3, some (.int (v4))], [], (hp M J R c e nL xs D)) =
    px_run (px_mk (kX12_word X)) 157 ([some (.ref 67), some (.int (v1)), some (.int (v2)), none, some (.int (v4))], [.int (0)], (hp M J R c e nL xs D)) := (px_run_eq _ _ _).trans rfl
set_option maxRecDepth 40000 in
theorem eX12_word_115_8 (X : px_X) (M : Nat → Nat → Int32) (J : Nat → Nat → Int64) (R : Nat → Nat → Option Nat) (c e : Nat) (nL : Nat) (xs : Nat → Int32) (D : px_H) (v1 : Int32) (v2 : Int32) (v3 : Int32) (v4 : Int32) (w0 : Int32) : px_p (kX12_word X) 115 8 ([some (.ref 67), some (.int (v1)), some (.int (v2)), some (.int (v3)), some (.int (v4))], [.int (w0)], (hp M J R c e nL xs D)) =
    cond (px_inb (v4) 39)
    (cond (decide (¬ w0 = ((M 106) (Int32.toNatClampNeg (v4)))))
    (px_run (px_mk (kX12_word X)) 156 ([some (.ref 67), some (.int (v1)), some (.int (v2)), some (.int (v3)), some (.int (v4))], [], (hp M J R c e nL xs D)))
    (cond (decide ((M 67 57 - M 67 58) ≤ v2))
    (px_run (px_mk (kX12_word X)) 156 ([some (.ref 67), some (.int (v1)), some (.int (v2)), some (.int (v3)), some (.int (v4))], [], (hp M J R c e nL xs D)))
    (px_run (px_mk (kX12_word X)) 157 ([some (.ref 67), some (.int (v1)), some (.int (v2)), some (.int (v3)), some (.int (v4))], [.int (1)], (hp M J R c e nL xs D))))) none := rfl
set_option maxRecDepth 40000 in
theorem eX12_word_161 (X : px_X) (M : Nat → Nat → Int32) (J : Nat → Nat → Int64) (R : Nat → Nat → Option Nat) (c e : Nat) (nL : Nat) (xs : Nat → Int32) (D : px_H) (v1 : Int32) (v2 : Int32) (v3 : Int32) (v4 : Int32) : px_run (px_mk (kX12_word X)) 161 ([some (.ref 67), some (.int (v1)), some (.int (v2)), some (.int (v3)), some (.int (v4))], [], (hp M J R c e nL xs D)) =
    px_run (px_mk (kX12_word X)) 41 ([some (.ref 67), some (.int (v1)), some (.int (v2)), some (.int (v3)), some (.int ((v4 + 1)))], [], (hp M J R c e nL xs D)) := (px_run_eq _ _ _).trans rfl
set_option maxRecDepth 40000 in
theorem eX12_word_157 (X : px_X) (M : Nat → Nat → Int32) (J : Nat → Nat → Int64) (R : Nat → Nat → Option Nat) (c e : Nat) (nL : Nat) (xs : Nat → Int32) (D : px_H) (v1 : Int32) (v2 : Int32) (o3 : Option Value) (v4 : Int32) (w0 : Int32) : px_run (px_mk (kX12_word X)) 157 ([some (.ref 67), some (.int (v1)), some (.int (v2)), o3, some (.int (v4))], [.int (w0)], (hp M J R c e nL xs D)) =
    px_run (px_mk (kX12_word X)) 161 ([some (.ref 67), some (.int (v1)), some (.int ((v2 + 1))), some (.int (w0)), some (.int (v4))], [], (hp M J R c e nL xs D)) := (px_run_eq _ _ _).trans rfl
set_option maxRecDepth 40000 in
theorem eX12_isWrong_0 (X : px_X) (M : Nat → Nat → Int32) (J : Nat → Nat → Int64) (R : Nat → Nat → Option Nat) (c e : Nat) (nL : Nat) (xs : Nat → Int32) (D : px_H)  : px_run (px_mk (kX12_isWrong X)) 0 ([some (.ref 67)], [], (hp M J R c e nL xs D)) =
    cond (decide (M 67 61 = (-1)))
    (px_run (px_mk (kX12_isWrong X)) 12 ([some (.ref 67)], [], (hp M J R c e nL xs D)))
    (px_run (px_mk (kX12_isWrong X)) 13 ([some (.ref 67)], [.int (1)], (hp M J R c e nL xs D))) := (px_run_eq _ _ _).trans rfl
set_option maxRecDepth 40000 in
theorem eX12_isWrong_12 (X : px_X) (M : Nat → Nat → Int32) (J : Nat → Nat → Int64) (R : Nat → Nat → Option Nat) (c e : Nat) (nL : Nat) (xs : Nat → Int32) (D : px_H) (o0 : Option Value) : px_run (px_mk (kX12_isWrong X)) 12 ([o0], [], (hp M J R c e nL xs D)) =
    px_run (px_mk (kX12_isWrong X)) 13 ([none], [.int (0)], (hp M J R c e nL xs D)) := (px_run_eq _ _ _).trans rfl
set_option maxRecDepth 40000 in
theorem eX12_isWrong_13 (X : px_X) (M : Nat → Nat → Int32) (J : Nat → Nat → Int64) (R : Nat → Nat → Option Nat) (c e : Nat) (nL : Nat) (xs : Nat → Int32) (D : px_H) (o0 : Option Value) (w0 : Int32) : px_run (px_mk (kX12_isWrong X)) 13 ([o0], [.int (w0)], (hp M J R c e nL xs D)) =
    cond (decide (w0 = 0) || decide (w0 = 1)) (some (some (.int (w0)), (hp M J R c e nL xs D))) none := (px_run_eq _ _ _).trans rfl
set_option maxRecDepth 40000 in
theorem eX12_cannot_0 (X : px_X) (M : Nat → Nat → Int32) (J : Nat → Nat → Int64) (R : Nat → Nat → Option Nat) (c e : Nat) (nL : Nat) (xs : Nat → Int32) (D : px_H)  : px_run (px_mk (kX12_cannot X)) 0 ([some (.ref 67)], [], (hp M J R c e nL xs D)) =
    cond (decide (¬ M 67 61 = (-1)))
    (px_run (px_mk (kX12_cannot X)) 16 ([some (.ref 67)], [.ref 67], (hp M J R c e nL xs D)))
    (px_run (px_mk (kX12_cannot X)) 20 ([some (.ref 67)], [.int (M 67 58), .ref 67], (hp M J R c e nL xs D))) := (px_run_eq _ _ _).trans rfl
set_option maxRecDepth 40000 in
theorem eX12_cannot_16 (X : px_X) (M : Nat → Nat → Int32) (J : Nat → Nat → Int64) (R : Nat → Nat → Option Nat) (c e : Nat) (nL : Nat) (xs : Nat → Int32) (D : px_H)  : px_run (px_mk (kX12_cannot X)) 16 ([some (.ref 67)], [.ref 67], (hp M J R c e nL xs D)) =
    px_run (px_mk (kX12_cannot X)) 20 ([some (.ref 67)], [.int (M 67 61), .ref 67], (hp M J R c e nL xs D)) := (px_run_eq _ _ _).trans rfl
set_option maxRecDepth 40000 in
theorem eX12_cannot_20 (X : px_X) (M : Nat → Nat → Int32) (J : Nat → Nat → Int64) (R : Nat → Nat → Option Nat) (c e : Nat) (nL : Nat) (xs : Nat → Int32) (D : px_H) (o0 : Option Value) (w1 : Int32) : px_run (px_mk (kX12_cannot X)) 20 ([o0], [.int (w1), .ref 67], (hp M J R c e nL xs D)) =
    some (none, (hp (px_uR M 67 (upd (M 67) 61 (w1))) J R c e nL xs D)) := (px_run_eq _ _ _).trans rfl
set_option maxRecDepth 40000 in
theorem eX12_need_0 (X : px_X) (M : Nat → Nat → Int32) (J : Nat → Nat → Int64) (R : Nat → Nat → Option Nat) (c e : Nat) (nL : Nat) (xs : Nat → Int32) (D : px_H) (v1 : Int32) : px_run (px_mk (kX12_need X)) 0 ([some (.ref 67), some (.int (v1))], [], (hp M J R c e nL xs D)) =
    px_bd (X 214 [.ref 67] (hp M J R c e nL xs D))
    (fun v G1 => px_p (kX12_need X) 0 2 ([some (.ref 67), some (.int (v1))], px_psh v [], G1)) := (px_run_eq _ _ _).trans rfl
set_option maxRecDepth 40000 in
theorem eX12_need_0_2 (X : px_X) (M : Nat → Nat → Int32) (J : Nat → Nat → Int64) (R : Nat → Nat → Option Nat) (c e : Nat) (nL : Nat) (xs : Nat → Int32) (D : px_H) (v1 : Int32) (w0 : Int32) : px_p (kX12_need X) 0 2 ([some (.ref 67), some (.int (v1))], [.int (w0)], (hp M J R c e nL xs D)) =
    cond (decide (w0 = 0))
    (px_run (px_mk (kX12_need X)) 8 ([some (.ref 67), some (.int (v1))], [], (hp M J R c e nL xs D)))
    (some (none, (hp M J R c e nL xs D))) := rfl
set_option maxRecDepth 40000 in
theorem eX12_need_8 (X : px_X) (M : Nat → Nat → Int32) (J : Nat → Nat → Int64) (R : Nat → Nat → Option Nat) (c e : Nat) (nL : Nat) (xs : Nat → Int32) (D : px_H) (v1 : Int32) : px_run (px_mk (kX12_need X)) 8 ([some (.ref 67), some (.int (v1))], [], (hp M J R c e nL xs D)) =
    cond (decide (M 67 59 = v1))
    (px_run (px_mk (kX12_need X)) 23 ([some (.ref 67), some (.int (v1))], [], (hp M J R c e nL xs D)))
    (px_bd (X 215 [.ref 67] (hp M J R c e nL xs D))
    (fun v G1 => px_p (kX12_need X) 8 6 ([some (.ref 67), some (.int (v1))], px_psh v [], G1))) := (px_run_eq _ _ _).trans rfl
set_option maxRecDepth 40000 in
theorem eX12_need_23_2 (X : px_X) (st : px_S) : px_p (kX12_need X) 23 2 st = px_run (px_mk (kX12_need X)) 27 st := rfl
set_option maxRecDepth 40000 in
theorem eX12_need_23 (X : px_X) (M : Nat → Nat → Int32) (J : Nat → Nat → Int64) (R : Nat → Nat → Option Nat) (c e : Nat) (nL : Nat) (xs : Nat → Int32) (D : px_H) (o1 : Option Value) : px_run (px_mk (kX12_need X)) 23 ([some (.ref 67), o1], [], (hp M J R c e nL xs D)) =
    px_bd (X 211 [.ref 67] (hp M J R c e nL xs D))
    (fun v G1 => px_p (kX12_need X) 23 2 ([some (.ref 67), none], px_psh v [], G1)) := (px_run_eq _ _ _).trans rfl
set_option maxRecDepth 40000 in
theorem eX12_need_8_6 (X : px_X) (M : Nat → Nat → Int32) (J : Nat → Nat → Int64) (R : Nat → Nat → Option Nat) (c e : Nat) (nL : Nat) (xs : Nat → Int32) (D : px_H) (v1 : Int32) : px_p (kX12_need X) 8 6 ([some (.ref 67), some (.int (v1))], [], (hp M J R c e nL xs D)) =
    px_run (px_mk (kX12_need X)) 27 ([some (.ref 67), some (.int (v1))], [], (hp M J R c e nL xs D)) := rfl
set_option maxRecDepth 40000 in
theorem eX12_need_27 (X : px_X) (M : Nat → Nat → Int32) (J : Nat → Nat → Int64) (R : Nat → Nat → Option Nat) (c e : Nat) (nL : Nat) (xs : Nat → Int32) (D : px_H) (o0 : Option Value) (o1 : Option Value) : px_run (px_mk (kX12_need X)) 27 ([o0, o1], [], (hp M J R c e nL xs D)) =
    some (none, (hp M J R c e nL xs D)) := (px_run_eq _ _ _).trans rfl
set_option maxRecDepth 40000 in
theorem eX12_opens_0_6 (X : px_X) (st : px_S) : px_p (kX12_opens X) 0 6 st = px_run (px_mk (kX12_opens X)) 12 st := rfl
set_option maxRecDepth 40000 in
theorem eX12_opens_0 (X : px_X) (M : Nat → Nat → Int32) (J : Nat → Nat → Int64) (R : Nat → Nat → Option Nat) (c e : Nat) (nL : Nat) (xs : Nat → Int32) (D : px_H)  : px_run (px_mk (kX12_opens X)) 0 ([some (.ref 67)], [], (hp M J R c e nL xs D)) =
    cond (decide (¬ M 67 62 = 5))
    (px_run (px_mk (kX12_opens X)) 12 ([some (.ref 67)], [], (hp M J R c e nL xs D)))
    (px_bd (X 215 [.ref 67] (hp M J R c e nL xs D))
    (fun v G1 => px_p (kX12_opens X) 0 6 ([some (.ref 67)], px_psh v [], G1))) := (px_run_eq _ _ _).trans rfl
set_option maxRecDepth 40000 in
theorem eX12_opens_12 (X : px_X) (M : Nat → Nat → Int32) (J : Nat → Nat → Int64) (R : Nat → Nat → Option Nat) (c e : Nat) (nL : Nat) (xs : Nat → Int32) (D : px_H)  : px_run (px_mk (kX12_opens X)) 12 ([some (.ref 67)], [], (hp M J R c e nL xs D)) =
    px_bd (X 214 [.ref 67] (hp (px_uR M 67 (upd (M 67) 62 ((M 67 62 + 1)))) J R c e nL xs D))
    (fun v G1 => px_p (kX12_opens X) 12 8 ([some (.ref 67)], px_psh v [], G1)) := (px_run_eq _ _ _).trans rfl
set_option maxRecDepth 40000 in
theorem eX12_opens_12_11 (X : px_X) (st : px_S) : px_p (kX12_opens X) 12 11 st = px_run (px_mk (kX12_opens X)) 33 st := rfl
set_option maxRecDepth 40000 in
theorem eX12_opens_12_8 (X : px_X) (M : Nat → Nat → Int32) (J : Nat → Nat → Int64) (R : Nat → Nat → Option Nat) (c e : Nat) (nL : Nat) (xs : Nat → Int32) (D : px_H) (w0 : Int32) : px_p (kX12_opens X) 12 8 ([some (.ref 67)], [.int (w0)], (hp M J R c e nL xs D)) =
    cond (decide (¬ w0 = 0))
    (px_run (px_mk (kX12_opens X)) 33 ([some (.ref 67)], [], (hp M J R c e nL xs D)))
    (px_bd (X 211 [.ref 67] (hp M J R c e nL xs D))
    (fun v G1 => px_p (kX12_opens X) 12 11 ([some (.ref 67)], px_psh v [], G1))) := rfl
set_option maxRecDepth 40000 in
theorem eX12_opens_33 (X : px_X) (M : Nat → Nat → Int32) (J : Nat → Nat → Int64) (R : Nat → Nat → Option Nat) (c e : Nat) (nL : Nat) (xs : Nat → Int32) (D : px_H) (o0 : Option Value) : px_run (px_mk (kX12_opens X)) 33 ([o0], [], (hp M J R c e nL xs D)) =
    some (none, (hp M J R c e nL xs D)) := (px_run_eq _ _ _).trans rfl
set_option maxRecDepth 40000 in
theorem eX12_emit_0 (X : px_X) (M : Nat → Nat → Int32) (J : Nat → Nat → Int64) (R : Nat → Nat → Option Nat) (c e : Nat) (nL : Nat) (xs : Nat → Int32) (D : px_H) (v1 : Int32) (v2 : Int32) : px_run (px_mk (kX12_emit X)) 0 ([some (.ref 67), some (.int (v1)), some (.int (v2))], [], (hp M J R c e nL xs D)) =
    cond (px_inb (((160 * M 67 56) + M 67 63)) 320)
    (cond (px_inb (((160 * M 67 56) + M 67 63)) 320)
    (some (none, (hp (px_uR (px_uR (px_uR M 96 (upd (M 96) (Int32.toNatClampNeg (((160 * M 67 56) + M 67 63))) (v1))) 97 (upd (M 97) (Int32.toNatClampNeg (((160 * M 67 56) + M 67 63))) (v2))) 67 (upd (M 67) 63 ((M 67 63 + 1)))) J R c e nL xs D))) none) none := (px_run_eq _ _ _).trans rfl
set_option maxRecDepth 40000 in
theorem eX12_reads_0_19 (X : px_X) (st : px_S) : px_p (kX12_reads X) 0 19 st = px_run (px_mk (kX12_reads X)) 31 st := rfl
set_option maxRecDepth 40000 in
theorem eX12_reads_0 (X : px_X) (M : Nat → Nat → Int32) (J : Nat → Nat → Int64) (R : Nat → Nat → Option Nat) (c e : Nat) (nL : Nat) (xs : Nat → Int32) (D : px_H)  : px_run (px_mk (kX12_reads X)) 0 ([some (.ref 67), none], [], (hp M J R c e nL xs D)) =
    px_bd (X 211 [.ref 67] (hp (px_uR M 67 (upd (upd (upd (upd (upd (M 67) 56 (1)) 57 (0)) 61 ((-1))) 62 (0)) 63 (0))) J R c e nL xs D))
    (fun v G1 => px_p (kX12_reads X) 0 19 ([some (.ref 67), some (.int (0))], px_psh v [], G1)) := (px_run_eq _ _ _).trans rfl
set_option maxRecDepth 40000 in
theorem eX12_reads_31 (X : px_X) (M : Nat → Nat → Int32) (J : Nat → Nat → Int64) (R : Nat → Nat → Option Nat) (c e : Nat) (nL : Nat) (xs : Nat → Int32) (D : px_H) (v1 : Int32) : px_run (px_mk (kX12_reads X)) 31 ([some (.ref 67), some (.int (v1))], [], (hp M J R c e nL xs D)) =
    px_bd (X 214 [.ref 67] (hp M J R c e nL xs D))
    (fun v G1 => px_p (kX12_reads X) 31 2 ([some (.ref 67), some (.int (v1))], px_psh v [], G1)) := (px_run_eq _ _ _).trans rfl
set_option maxRecDepth 40000 in
theorem eX12_reads_31_2 (X : px_X) (M : Nat → Nat → Int32) (J : Nat → Nat → Int64) (R : Nat → Nat → Option Nat) (c e : Nat) (nL : Nat) (xs : Nat → Int32) (D : px_H) (v1 : Int32) (w0 : Int32) : px_p (kX12_reads X) 31 2 ([some (.ref 67), some (.int (v1))], [.int (w0)], (hp M J R c e nL xs D)) =
    cond (decide (¬ w0 = 0))
    (px_run (px_mk (kX12_reads X)) 97 ([some (.ref 67), some (.int (v1))], [], (hp M J R c e nL xs D)))
    (cond (decide (¬ M 67 59 = 300))
    (px_run (px_mk (kX12_reads X)) 97 ([some (.ref 67), some (.int (v1))], [], (hp M J R c e nL xs D)))
    (cond (decide (¬ v1 = 6))
    (px_run (px_mk (kX12_reads X)) 61 ([some (.ref 67), some (.int (v1))], [], (hp M J R c e nL xs D)))
    (px_bd (X 215 [.ref 67] (hp M J R c e nL xs D))
    (fun v G1 => px_p (kX12_reads X) 31 12 ([some (.ref 67), some (.int (v1))], px_psh v [], G1))))) := rfl
set_option maxRecDepth 40000 in
theorem eX12_reads_97 (X : px_X) (M : Nat → Nat → Int32) (J : Nat → Nat → Int64) (R : Nat → Nat → Option Nat) (c e : Nat) (nL : Nat) (xs : Nat → Int32) (D : px_H) (v1 : Int32) : px_run (px_mk (kX12_reads X)) 97 ([some (.ref 67), some (.int (v1))], [], (hp M J R c e nL xs D)) =
    cond (px_inb ((8 + v1)) 16)
    (px_bd (X 216 [.ref 67, .int (0)] (hp (px_uR M 98 (upd (M 98) (Int32.toNatClampNeg ((8 + v1))) (M 67 63))) J R c e nL xs D))
    (fun v G1 => px_p (kX12_reads X) 97 11 ([some (.ref 67), some (.int (v1))], px_psh v [], G1))) none := (px_run_eq _ _ _).trans rfl
set_option maxRecDepth 40000 in
theorem eX12_reads_61 (X : px_X) (M : Nat → Nat → Int32) (J : Nat → Nat → Int64) (R : Nat → Nat → Option Nat) (c e : Nat) (nL : Nat) (xs : Nat → Int32) (D : px_H) (v1 : Int32) : px_run (px_mk (kX12_reads X)) 61 ([some (.ref 67), some (.int (v1))], [], (hp M J R c e nL xs D)) =
    cond (px_inb ((8 + v1)) 16)
    (px_bd (X 216 [.ref 67, .int (300)] (hp (px_uR M 98 (upd (M 98) (Int32.toNatClampNeg ((8 + v1))) (M 67 63))) J R c e nL xs D))
    (fun v G1 => px_p (kX12_reads X) 61 12 ([some (.ref 67), some (.int ((v1 + 1)))], px_psh v [], G1))) none := (px_run_eq _ _ _).trans rfl
set_option maxRecDepth 40000 in
theorem eX12_reads_31_12 (X : px_X) (M : Nat → Nat → Int32) (J : Nat → Nat → Int64) (R : Nat → Nat → Option Nat) (c e : Nat) (nL : Nat) (xs : Nat → Int32) (D : px_H) (v1 : Int32) : px_p (kX12_reads X) 31 12 ([some (.ref 67), some (.int (v1))], [], (hp M J R c e nL xs D)) =
    px_run (px_mk (kX12_reads X)) 31 ([some (.ref 67), some (.int (v1))], [], (hp M J R c e nL xs D)) := rfl
set_option maxRecDepth 40000 in
theorem eX12_reads_97_11 (X : px_X) (M : Nat → Nat → Int32) (J : Nat → Nat → Int64) (R : Nat → Nat → Option Nat) (c e : Nat) (nL : Nat) (xs : Nat → Int32) (D : px_H) (v1 : Int32) : px_p (kX12_reads X) 97 11 ([some (.ref 67), some (.int (v1))], [], (hp M J R c e nL xs D)) =
    some (some (.int (v1)), (hp M J R c e nL xs D)) := rfl
set_option maxRecDepth 40000 in
theorem eX12_reads_61_12 (X : px_X) (M : Nat → Nat → Int32) (J : Nat → Nat → Int64) (R : Nat → Nat → Option Nat) (c e : Nat) (nL : Nat) (xs : Nat → Int32) (D : px_H) (v1 : Int32) : px_p (kX12_reads X) 61 12 ([some (.ref 67), some (.int (v1))], [], (hp M J R c e nL xs D)) =
    px_bd (X 220 [.ref 67] (hp M J R c e nL xs D))
    (fun v G1 => px_p (kX12_reads X) 61 14 ([some (.ref 67), some (.int (v1))], px_psh v [], G1)) := rfl
set_option maxRecDepth 40000 in
theorem eX12_reads_61_14 (X : px_X) (M : Nat → Nat → Int32) (J : Nat → Nat → Int64) (R : Nat → Nat → Option Nat) (c e : Nat) (nL : Nat) (xs : Nat → Int32) (D : px_H) (v1 : Int32) : px_p (kX12_reads X) 61 14 ([some (.ref 67), some (.int (v1))], [], (hp M J R c e nL xs D)) =
    px_bd (X 216 [.ref 67, .int (59)] (hp M J R c e nL xs D))
    (fun v G1 => px_p (kX12_reads X) 61 17 ([some (.ref 67), some (.int (v1))], px_psh v [], G1)) := rfl
set_option maxRecDepth 40000 in
theorem eX12_reads_61_17 (X : px_X) (M : Nat → Nat → Int32) (J : Nat → Nat → Int64) (R : Nat → Nat → Option Nat) (c e : Nat) (nL : Nat) (xs : Nat → Int32) (D : px_H) (v1 : Int32) : px_p (kX12_reads X) 61 17 ([some (.ref 67), some (.int (v1))], [], (hp M J R c e nL xs D)) =
    px_run (px_mk (kX12_reads X)) 31 ([some (.ref 67), some (.int (v1))], [], (hp M J R c e nL xs D)) := rfl
set_option maxRecDepth 40000 in
theorem eX12_either_0_2 (X : px_X) (st : px_S) : px_p (kX12_either X) 0 2 st = px_run (px_mk (kX12_either X)) 4 st := rfl
set_option maxRecDepth 40000 in
theorem eX12_either_0 (X : px_X) (M : Nat → Nat → Int32) (J : Nat → Nat → Int64) (R : Nat → Nat → Option Nat) (c e : Nat) (nL : Nat) (xs : Nat → Int32) (D : px_H)  : px_run (px_mk (kX12_either X)) 0 ([some (.ref 67)], [], (hp M J R c e nL xs D)) =
    px_bd (X 221 [.ref 67] (hp M J R c e nL xs D))
    (fun v G1 => px_p (kX12_either X) 0 2 ([some (.ref 67)], px_psh v [], G1)) := (px_run_eq _ _ _).trans rfl
set_option maxRecDepth 40000 in
theorem eX12_either_4 (X : px_X) (M : Nat → Nat → Int32) (J : Nat → Nat → Int64) (R : Nat → Nat → Option Nat) (c e : Nat) (nL : Nat) (xs : Nat → Int32) (D : px_H)  : px_run (px_mk (kX12_either X)) 4 ([some (.ref 67)], [], (hp M J R c e nL xs D)) =
    px_bd (X 214 [.ref 67] (hp M J R c e nL xs D))
    (fun v G1 => px_p (kX12_either X) 4 2 ([some (.ref 67)], px_psh v [], G1)) := (px_run_eq _ _ _).trans rfl
set_option maxRecDepth 40000 in
theorem eX12_either_4_2 (X : px_X) (M : Nat → Nat → Int32) (J : Nat → Nat → Int64) (R : Nat → Nat → Option Nat) (c e : Nat) (nL : Nat) (xs : Nat → Int32) (D : px_H) (w0 : Int32) : px_p (kX12_either X) 4 2 ([some (.ref 67)], [.int (w0)], (hp M J R c e nL xs D)) =
    cond (decide (¬ w0 = 0))
    (px_run (px_mk (kX12_either X)) 38 ([some (.ref 67)], [], (hp M J R c e nL xs D)))
    (cond (decide (¬ M 67 59 = 301))
    (px_run (px_mk (kX12_either X)) 38 ([some (.ref 67)], [], (hp M J R c e nL xs D)))
    (px_bd (X 211 [.ref 67] (hp M J R c e nL xs D))
    (fun v G1 => px_p (kX12_either X) 4 9 ([some (.ref 67)], px_psh v [], G1)))) := rfl
set_option maxRecDepth 40000 in
theorem eX12_either_38 (X : px_X) (M : Nat → Nat → Int32) (J : Nat → Nat → Int64) (R : Nat → Nat → Option Nat) (c e : Nat) (nL : Nat) (xs : Nat → Int32) (D : px_H) (o0 : Option Value) : px_run (px_mk (kX12_either X)) 38 ([o0], [], (hp M J R c e nL xs D)) =
    some (none, (hp M J R c e nL xs D)) := (px_run_eq _ _ _).trans rfl
set_option maxRecDepth 40000 in
theorem eX12_either_4_9 (X : px_X) (M : Nat → Nat → Int32) (J : Nat → Nat → Int64) (R : Nat → Nat → Option Nat) (c e : Nat) (nL : Nat) (xs : Nat → Int32) (D : px_H)  : px_p (kX12_either X) 4 9 ([some (.ref 67)], [], (hp M J R c e nL xs D)) =
    px_bd (X 221 [.ref 67] (hp M J R c e nL xs D))
    (fun v G1 => px_p (kX12_either X) 4 11 ([some (.ref 67)], px_psh v [], G1)) := rfl
set_option maxRecDepth 40000 in
theorem eX12_either_4_11 (X : px_X) (M : Nat → Nat → Int32) (J : Nat → Nat → Int64) (R : Nat → Nat → Option Nat) (c e : Nat) (nL : Nat) (xs : Nat → Int32) (D : px_H)  : px_p (kX12_either X) 4 11 ([some (.ref 67)], [], (hp M J R c e nL xs D)) =
    px_bd (X 218 [.ref 67, .int (2), .int (0)] (hp M J R c e nL xs D))
    (fun v G1 => px_p (kX12_either X) 4 15 ([some (.ref 67)], px_psh v [], G1)) := rfl
set_option maxRecDepth 40000 in
theorem eX12_either_4_15 (X : px_X) (M : Nat → Nat → Int32) (J : Nat → Nat → Int64) (R : Nat → Nat → Option Nat) (c e : Nat) (nL : Nat) (xs : Nat → Int32) (D : px_H)  : px_p (kX12_either X) 4 15 ([some (.ref 67)], [], (hp M J R c e nL xs D)) =
    px_run (px_mk (kX12_either X)) 4 ([some (.ref 67)], [], (hp M J R c e nL xs D)) := rfl
set_option maxRecDepth 40000 in
theorem eX12_both_0_2 (X : px_X) (st : px_S) : px_p (kX12_both X) 0 2 st = px_run (px_mk (kX12_both X)) 4 st := rfl
set_option maxRecDepth 40000 in
theorem eX12_both_0 (X : px_X) (M : Nat → Nat → Int32) (J : Nat → Nat → Int64) (R : Nat → Nat → Option Nat) (c e : Nat) (nL : Nat) (xs : Nat → Int32) (D : px_H)  : px_run (px_mk (kX12_both X)) 0 ([some (.ref 67)], [], (hp M J R c e nL xs D)) =
    px_bd (X 222 [.ref 67] (hp M J R c e nL xs D))
    (fun v G1 => px_p (kX12_both X) 0 2 ([some (.ref 67)], px_psh v [], G1)) := (px_run_eq _ _ _).trans rfl
set_option maxRecDepth 40000 in
theorem eX12_both_4 (X : px_X) (M : Nat → Nat → Int32) (J : Nat → Nat → Int64) (R : Nat → Nat → Option Nat) (c e : Nat) (nL : Nat) (xs : Nat → Int32) (D : px_H)  : px_run (px_mk (kX12_both X)) 4 ([some (.ref 67)], [], (hp M J R c e nL xs D)) =
    px_bd (X 214 [.ref 67] (hp M J R c e nL xs D))
    (fun v G1 => px_p (kX12_both X) 4 2 ([some (.ref 67)], px_psh v [], G1)) := (px_run_eq _ _ _).trans rfl
set_option maxRecDepth 40000 in
theorem eX12_both_4_2 (X : px_X) (M : Nat → Nat → Int32) (J : Nat → Nat → Int64) (R : Nat → Nat → Option Nat) (c e : Nat) (nL : Nat) (xs : Nat → Int32) (D : px_H) (w0 : Int32) : px_p (kX12_both X) 4 2 ([some (.ref 67)], [.int (w0)], (hp M J R c e nL xs D)) =
    cond (decide (¬ w0 = 0))
    (px_run (px_mk (kX12_both X)) 38 ([some (.ref 67)], [], (hp M J R c e nL xs D)))
    (cond (decide (¬ M 67 59 = 302))
    (px_run (px_mk (kX12_both X)) 38 ([some (.ref 67)], [], (hp M J R c e nL xs D)))
    (px_bd (X 211 [.ref 67] (hp M J R c e nL xs D))
    (fun v G1 => px_p (kX12_both X) 4 9 ([some (.ref 67)], px_psh v [], G1)))) := rfl
set_option maxRecDepth 40000 in
theorem eX12_both_38 (X : px_X) (M : Nat → Nat → Int32) (J : Nat → Nat → Int64) (R : Nat → Nat → Option Nat) (c e : Nat) (nL : Nat) (xs : Nat → Int32) (D : px_H) (o0 : Option Value) : px_run (px_mk (kX12_both X)) 38 ([o0], [], (hp M J R c e nL xs D)) =
    some (none, (hp M J R c e nL xs D)) := (px_run_eq _ _ _).trans rfl
set_option maxRecDepth 40000 in
theorem eX12_both_4_9 (X : px_X) (M : Nat → Nat → Int32) (J : Nat → Nat → Int64) (R : Nat → Nat → Option Nat) (c e : Nat) (nL : Nat) (xs : Nat → Int32) (D : px_H)  : px_p (kX12_both X) 4 9 ([some (.ref 67)], [], (hp M J R c e nL xs D)) =
    px_bd (X 222 [.ref 67] (hp M J R c e nL xs D))
    (fun v G1 => px_p (kX12_both X) 4 11 ([some (.ref 67)], px_psh v [], G1)) := rfl
set_option maxRecDepth 40000 in
theorem eX12_both_4_11 (X : px_X) (M : Nat → Nat → Int32) (J : Nat → Nat → Int64) (R : Nat → Nat → Option Nat) (c e : Nat) (nL : Nat) (xs : Nat → Int32) (D : px_H)  : px_p (kX12_both X) 4 11 ([some (.ref 67)], [], (hp M J R c e nL xs D)) =
    px_bd (X 218 [.ref 67, .int (3), .int (0)] (hp M J R c e nL xs D))
    (fun v G1 => px_p (kX12_both X) 4 15 ([some (.ref 67)], px_psh v [], G1)) := rfl
set_option maxRecDepth 40000 in
theorem eX12_both_4_15 (X : px_X) (M : Nat → Nat → Int32) (J : Nat → Nat → Int64) (R : Nat → Nat → Option Nat) (c e : Nat) (nL : Nat) (xs : Nat → Int32) (D : px_H)  : px_p (kX12_both X) 4 15 ([some (.ref 67)], [], (hp M J R c e nL xs D)) =
    px_run (px_mk (kX12_both X)) 4 ([some (.ref 67)], [], (hp M J R c e nL xs D)) := rfl
set_option maxRecDepth 40000 in
theorem eX12_not_0 (X : px_X) (M : Nat → Nat → Int32) (J : Nat → Nat → Int64) (R : Nat → Nat → Option Nat) (c e : Nat) (nL : Nat) (xs : Nat → Int32) (D : px_H)  : px_run (px_mk (kX12_not X)) 0 ([some (.ref 67), none], [], (hp M J R c e nL xs D)) =
    px_bd (X 214 [.ref 67] (hp M J R c e nL xs D))
    (fun v G1 => px_p (kX12_not X) 0 2 ([some (.ref 67), none], px_psh v [], G1)) := (px_run_eq _ _ _).trans rfl
set_option maxRecDepth 40000 in
theorem eX12_not_0_2 (X : px_X) (M : Nat → Nat → Int32) (J : Nat → Nat → Int64) (R : Nat → Nat → Option Nat) (c e : Nat) (nL : Nat) (xs : Nat → Int32) (D : px_H) (w0 : Int32) : px_p (kX12_not X) 0 2 ([some (.ref 67), none], [.int (w0)], (hp M J R c e nL xs D)) =
    cond (decide (w0 = 0))
    (px_run (px_mk (kX12_not X)) 8 ([some (.ref 67), none], [], (hp M J R c e nL xs D)))
    (some (none, (hp M J R c e nL xs D))) := rfl
set_option maxRecDepth 40000 in
theorem eX12_not_8 (X : px_X) (M : Nat → Nat → Int32) (J : Nat → Nat → Int64) (R : Nat → Nat → Option Nat) (c e : Nat) (nL : Nat) (xs : Nat → Int32) (D : px_H) (o1 : Option Value) : px_run (px_mk (kX12_not X)) 8 ([some (.ref 67), o1], [], (hp M J R c e nL xs D)) =
    cond (decide (¬ M 67 59 = 303))
    (px_run (px_mk (kX12_not X)) 43 ([some (.ref 67), none], [], (hp M J R c e nL xs D)))
    (px_bd (X 217 [.ref 67] (hp M J R c e nL xs D))
    (fun v G1 => px_p (kX12_not X) 8 6 ([some (.ref 67), none], px_psh v [], G1))) := (px_run_eq _ _ _).trans rfl
set_option maxRecDepth 40000 in
theorem eX12_not_43 (X : px_X) (M : Nat → Nat → Int32) (J : Nat → Nat → Int64) (R : Nat → Nat → Option Nat) (c e : Nat) (nL : Nat) (xs : Nat → Int32) (D : px_H) (o1 : Option Value) : px_run (px_mk (kX12_not X)) 43 ([some (.ref 67), o1], [], (hp M J R c e nL xs D)) =
    px_bd (X 223 [.ref 67] (hp M J R c e nL xs D))
    (fun v G1 => px_p (kX12_not X) 43 2 ([some (.ref 67), none], px_psh v [], G1)) := (px_run_eq _ _ _).trans rfl
set_option maxRecDepth 40000 in
theorem eX12_not_8_6 (X : px_X) (M : Nat → Nat → Int32) (J : Nat → Nat → Int64) (R : Nat → Nat → Option Nat) (c e : Nat) (nL : Nat) (xs : Nat → Int32) (D : px_H)  : px_p (kX12_not X) 8 6 ([some (.ref 67), none], [], (hp M J R c e nL xs D)) =
    px_bd (X 222 [.ref 67] (hp M J R c e nL xs D))
    (fun v G1 => px_p (kX12_not X) 8 8 ([some (.ref 67), none], px_psh v [], G1)) := rfl
set_option maxRecDepth 40000 in
theorem eX12_not_43_2 (X : px_X) (M : Nat → Nat → Int32) (J : Nat → Nat → Int64) (R : Nat → Nat → Option Nat) (c e : Nat) (nL : Nat) (xs : Nat → Int32) (D : px_H)  : px_p (kX12_not X) 43 2 ([some (.ref 67), none], [], (hp M J R c e nL xs D)) =
    px_bd (X 214 [.ref 67] (hp M J R c e nL xs D))
    (fun v G1 => px_p (kX12_not X) 43 4 ([some (.ref 67), none], px_psh v [], G1)) := rfl
set_option maxRecDepth 40000 in
theorem eX12_not_8_8 (X : px_X) (M : Nat → Nat → Int32) (J : Nat → Nat → Int64) (R : Nat → Nat → Option Nat) (c e : Nat) (nL : Nat) (xs : Nat → Int32) (D : px_H)  : px_p (kX12_not X) 8 8 ([some (.ref 67), none], [], (hp M J R c e nL xs D)) =
    px_bd (X 218 [.ref 67, .int (4), .int (0)] (hp (px_uR M 67 (upd (M 67) 62 ((M 67 62 - 1)))) J R c e nL xs D))
    (fun v G1 => px_p (kX12_not X) 8 18 ([some (.ref 67), none], px_psh v [], G1)) := rfl
set_option maxRecDepth 40000 in
theorem eX12_not_43_4 (X : px_X) (M : Nat → Nat → Int32) (J : Nat → Nat → Int64) (R : Nat → Nat → Option Nat) (c e : Nat) (nL : Nat) (xs : Nat → Int32) (D : px_H) (w0 : Int32) : px_p (kX12_not X) 43 4 ([some (.ref 67), none], [.int (w0)], (hp M J R c e nL xs D)) =
    cond (decide (¬ w0 = 0))
    (px_run (px_mk (kX12_not X)) 102 ([some (.ref 67), none], [], (hp M J R c e nL xs D)))
    (cond (decide (M 67 59 = 60))
    (px_run (px_mk (kX12_not X)) 72 ([some (.ref 67), none], [], (hp M J R c e nL xs D)))
    (cond (decide (¬ M 67 59 = 61))
    (px_run (px_mk (kX12_not X)) 102 ([some (.ref 67), none], [], (hp M J R c e nL xs D)))
    (px_run (px_mk (kX12_not X)) 72 ([some (.ref 67), none], [], (hp M J R c e nL xs D))))) := rfl
set_option maxRecDepth 40000 in
theorem eX12_not_8_18 (X : px_X) (M : Nat → Nat → Int32) (J : Nat → Nat → Int64) (R : Nat → Nat → Option Nat) (c e : Nat) (nL : Nat) (xs : Nat → Int32) (D : px_H)  : px_p (kX12_not X) 8 18 ([some (.ref 67), none], [], (hp M J R c e nL xs D)) =
    some (none, (hp M J R c e nL xs D)) := rfl
set_option maxRecDepth 40000 in
theorem eX12_not_102 (X : px_X) (M : Nat → Nat → Int32) (J : Nat → Nat → Int64) (R : Nat → Nat → Option Nat) (c e : Nat) (nL : Nat) (xs : Nat → Int32) (D : px_H) (o0 : Option Value) (o1 : Option Value) : px_run (px_mk (kX12_not X)) 102 ([o0, o1], [], (hp M J R c e nL xs D)) =
    some (none, (hp M J R c e nL xs D)) := (px_run_eq _ _ _).trans rfl
set_option maxRecDepth 40000 in
theorem eX12_not_72 (X : px_X) (M : Nat → Nat → Int32) (J : Nat → Nat → Int64) (R : Nat → Nat → Option Nat) (c e : Nat) (nL : Nat) (xs : Nat → Int32) (D : px_H) (o1 : Option Value) : px_run (px_mk (kX12_not X)) 72 ([some (.ref 67), o1], [], (hp M J R c e nL xs D)) =
    cond (decide (¬ M 67 59 = 60))
    (px_run (px_mk (kX12_not X)) 85 ([some (.ref 67), none], [], (hp M J R c e nL xs D)))
    (px_run (px_mk (kX12_not X)) 87 ([some (.ref 67), none], [.int (5)], (hp M J R c e nL xs D))) := (px_run_eq _ _ _).trans rfl
set_option maxRecDepth 40000 in
theorem eX12_not_85 (X : px_X) (M : Nat → Nat → Int32) (J : Nat → Nat → Int64) (R : Nat → Nat → Option Nat) (c e : Nat) (nL : Nat) (xs : Nat → Int32) (D : px_H) (o1 : Option Value) : px_run (px_mk (kX12_not X)) 85 ([some (.ref 67), o1], [], (hp M J R c e nL xs D)) =
    px_run (px_mk (kX12_not X)) 87 ([some (.ref 67), none], [.int (6)], (hp M J R c e nL xs D)) := (px_run_eq _ _ _).trans rfl
set_option maxRecDepth 40000 in
theorem eX12_not_87 (X : px_X) (M : Nat → Nat → Int32) (J : Nat → Nat → Int64) (R : Nat → Nat → Option Nat) (c e : Nat) (nL : Nat) (xs : Nat → Int32) (D : px_H) (o1 : Option Value) (w0 : Int32) : px_run (px_mk (kX12_not X)) 87 ([some (.ref 67), o1], [.int (w0)], (hp M J R c e nL xs D)) =
    px_bd (X 211 [.ref 67] (hp M J R c e nL xs D))
    (fun v G1 => px_p (kX12_not X) 87 3 ([some (.ref 67), some (.int (w0))], px_psh v [], G1)) := (px_run_eq _ _ _).trans rfl
set_option maxRecDepth 40000 in
theorem eX12_not_87_3 (X : px_X) (M : Nat → Nat → Int32) (J : Nat → Nat → Int64) (R : Nat → Nat → Option Nat) (c e : Nat) (nL : Nat) (xs : Nat → Int32) (D : px_H) (v1 : Int32) : px_p (kX12_not X) 87 3 ([some (.ref 67), some (.int (v1))], [], (hp M J R c e nL xs D)) =
    px_bd (X 223 [.ref 67] (hp M J R c e nL xs D))
    (fun v G1 => px_p (kX12_not X) 87 5 ([some (.ref 67), some (.int (v1))], px_psh v [], G1)) := rfl
set_option maxRecDepth 40000 in
theorem eX12_not_87_9 (X : px_X) (st : px_S) : px_p (kX12_not X) 87 9 st = px_run (px_mk (kX12_not X)) 102 st := rfl
set_option maxRecDepth 40000 in
theorem eX12_not_87_5 (X : px_X) (M : Nat → Nat → Int32) (J : Nat → Nat → Int64) (R : Nat → Nat → Option Nat) (c e : Nat) (nL : Nat) (xs : Nat → Int32) (D : px_H) (v1 : Int32) : px_p (kX12_not X) 87 5 ([some (.ref 67), some (.int (v1))], [], (hp M J R c e nL xs D)) =
    px_bd (X 218 [.ref 67, .int (v1), .int (0)] (hp M J R c e nL xs D))
    (fun v G1 => px_p (kX12_not X) 87 9 ([some (.ref 67), some (.int (v1))], px_psh v [], G1)) := rfl
set_option maxRecDepth 40000 in
theorem eX12_added_0_2 (X : px_X) (st : px_S) : px_p (kX12_added X) 0 2 st = px_run (px_mk (kX12_added X)) 4 st := rfl
set_option maxRecDepth 40000 in
theorem eX12_added_0 (X : px_X) (M : Nat → Nat → Int32) (J : Nat → Nat → Int64) (R : Nat → Nat → Option Nat) (c e : Nat) (nL : Nat) (xs : Nat → Int32) (D : px_H)  : px_run (px_mk (kX12_added X)) 0 ([some (.ref 67), none], [], (hp M J R c e nL xs D)) =
    px_bd (X 224 [.ref 67] (hp M J R c e nL xs D))
    (fun v G1 => px_p (kX12_added X) 0 2 ([some (.ref 67), none], px_psh v [], G1)) := (px_run_eq _ _ _).trans rfl
set_option maxRecDepth 40000 in
theorem eX12_added_4 (X : px_X) (M : Nat → Nat → Int32) (J : Nat → Nat → Int64) (R : Nat → Nat → Option Nat) (c e : Nat) (nL : Nat) (xs : Nat → Int32) (D : px_H) (o1 : Option Value) : px_run (px_mk (kX12_added X)) 4 ([some (.ref 67), o1], [], (hp M J R c e nL xs D)) =
    px_bd (X 214 [.ref 67] (hp M J R c e nL xs D))
    (fun v G1 => px_p (kX12_added X) 4 2 ([some (.ref 67), none], px_psh v [], G1)) := (px_run_eq _ _ _).trans rfl
set_option maxRecDepth 40000 in
theorem eX12_added_4_2 (X : px_X) (M : Nat → Nat → Int32) (J : Nat → Nat → Int64) (R : Nat → Nat → Option Nat) (c e : Nat) (nL : Nat) (xs : Nat → Int32) (D : px_H) (w0 : Int32) : px_p (kX12_added X) 4 2 ([some (.ref 67), none], [.int (w0)], (hp M J R c e nL xs D)) =
    cond (decide (¬ w0 = 0))
    (px_run (px_mk (kX12_added X)) 63 ([some (.ref 67), none], [], (hp M J R c e nL xs D)))
    (cond (decide (M 67 59 = 43))
    (px_run (px_mk (kX12_added X)) 29 ([some (.ref 67), none], [], (hp M J R c e nL xs D)))
    (cond (decide (¬ M 67 59 = 45))
    (px_run (px_mk (kX12_added X)) 63 ([some (.ref 67), none], [], (hp M J R c e nL xs D)))
    (px_run (px_mk (kX12_added X)) 29 ([some (.ref 67), none], [], (hp M J R c e nL xs D))))) := rfl
set_option maxRecDepth 40000 in
theorem eX12_added_63 (X : px_X) (M : Nat → Nat → Int32) (J : Nat → Nat → Int64) (R : Nat → Nat → Option Nat) (c e : Nat) (nL : Nat) (xs : Nat → Int32) (D : px_H) (o0 : Option Value) (o1 : Option Value) : px_run (px_mk (kX12_added X)) 63 ([o0, o1], [], (hp M J R c e nL xs D)) =
    some (none, (hp M J R c e nL xs D)) := (px_run_eq _ _ _).trans rfl
set_option maxRecDepth 40000 in
theorem eX12_added_29 (X : px_X) (M : Nat → Nat → Int32) (J : Nat → Nat → Int64) (R : Nat → Nat → Option Nat) (c e : Nat) (nL : Nat) (xs : Nat → Int32) (D : px_H) (o1 : Option Value) : px_run (px_mk (kX12_added X)) 29 ([some (.ref 67), o1], [], (hp M J R c e nL xs D)) =
    cond (decide (¬ M 67 59 = 43))
    (px_run (px_mk (kX12_added X)) 43 ([some (.ref 67), none], [], (hp M J R c e nL xs D)))
    (px_run (px_mk (kX12_added X)) 45 ([some (.ref 67), none], [.int (7)], (hp M J R c e nL xs D))) := (px_run_eq _ _ _).trans rfl
set_option maxRecDepth 40000 in
theorem eX12_added_43 (X : px_X) (M : Nat → Nat → Int32) (J : Nat → Nat → Int64) (R : Nat → Nat → Option Nat) (c e : Nat) (nL : Nat) (xs : Nat → Int32) (D : px_H) (o1 : Option Value) : px_run (px_mk (kX12_added X)) 43 ([some (.ref 67), o1], [], (hp M J R c e nL xs D)) =
    px_run (px_mk (kX12_added X)) 45 ([some (.ref 67), none], [.int (8)], (hp M J R c e nL xs D)) := (px_run_eq _ _ _).trans rfl
set_option maxRecDepth 40000 in
theorem eX12_added_45 (X : px_X) (M : Nat → Nat → Int32) (J : Nat → Nat → Int64) (R : Nat → Nat → Option Nat) (c e : Nat) (nL : Nat) (xs : Nat → Int32) (D : px_H) (o1 : Option Value) (w0 : Int32) : px_run (px_mk (kX12_added X)) 45 ([some (.ref 67), o1], [.int (w0)], (hp M J R c e nL xs D)) =
    px_bd (X 211 [.ref 67] (hp M J R c e nL xs D))
    (fun v G1 => px_p (kX12_added X) 45 3 ([some (.ref 67), some (.int (w0))], px_psh v [], G1)) := (px_run_eq _ _ _).trans rfl
set_option maxRecDepth 40000 in
theorem eX12_added_45_3 (X : px_X) (M : Nat → Nat → Int32) (J : Nat → Nat → Int64) (R : Nat → Nat → Option Nat) (c e : Nat) (nL : Nat) (xs : Nat → Int32) (D : px_H) (v1 : Int32) : px_p (kX12_added X) 45 3 ([some (.ref 67), some (.int (v1))], [], (hp M J R c e nL xs D)) =
    px_bd (X 224 [.ref 67] (hp M J R c e nL xs D))
    (fun v G1 => px_p (kX12_added X) 45 5 ([some (.ref 67), some (.int (v1))], px_psh v [], G1)) := rfl
set_option maxRecDepth 40000 in
theorem eX12_added_45_5 (X : px_X) (M : Nat → Nat → Int32) (J : Nat → Nat → Int64) (R : Nat → Nat → Option Nat) (c e : Nat) (nL : Nat) (xs : Nat → Int32) (D : px_H) (v1 : Int32) : px_p (kX12_added X) 45 5 ([some (.ref 67), some (.int (v1))], [], (hp M J R c e nL xs D)) =
    px_bd (X 218 [.ref 67, .int (v1), .int (0)] (hp M J R c e nL xs D))
    (fun v G1 => px_p (kX12_added X) 45 9 ([some (.ref 67), some (.int (v1))], px_psh v [], G1)) := rfl
set_option maxRecDepth 40000 in
theorem eX12_added_45_9 (X : px_X) (M : Nat → Nat → Int32) (J : Nat → Nat → Int64) (R : Nat → Nat → Option Nat) (c e : Nat) (nL : Nat) (xs : Nat → Int32) (D : px_H) (v1 : Int32) : px_p (kX12_added X) 45 9 ([some (.ref 67), some (.int (v1))], [], (hp M J R c e nL xs D)) =
    px_run (px_mk (kX12_added X)) 4 ([some (.ref 67), some (.int (v1))], [], (hp M J R c e nL xs D)) := rfl
set_option maxRecDepth 40000 in
theorem eX12_term_0_2 (X : px_X) (st : px_S) : px_p (kX12_term X) 0 2 st = px_run (px_mk (kX12_term X)) 4 st := rfl
set_option maxRecDepth 40000 in
theorem eX12_term_0 (X : px_X) (M : Nat → Nat → Int32) (J : Nat → Nat → Int64) (R : Nat → Nat → Option Nat) (c e : Nat) (nL : Nat) (xs : Nat → Int32) (D : px_H)  : px_run (px_mk (kX12_term X)) 0 ([some (.ref 67)], [], (hp M J R c e nL xs D)) =
    px_bd (X 225 [.ref 67] (hp M J R c e nL xs D))
    (fun v G1 => px_p (kX12_term X) 0 2 ([some (.ref 67)], px_psh v [], G1)) := (px_run_eq _ _ _).trans rfl
set_option maxRecDepth 40000 in
theorem eX12_term_4 (X : px_X) (M : Nat → Nat → Int32) (J : Nat → Nat → Int64) (R : Nat → Nat → Option Nat) (c e : Nat) (nL : Nat) (xs : Nat → Int32) (D : px_H)  : px_run (px_mk (kX12_term X)) 4 ([some (.ref 67)], [], (hp M J R c e nL xs D)) =
    px_bd (X 214 [.ref 67] (hp M J R c e nL xs D))
    (fun v G1 => px_p (kX12_term X) 4 2 ([some (.ref 67)], px_psh v [], G1)) := (px_run_eq _ _ _).trans rfl
set_option maxRecDepth 40000 in
theorem eX12_term_4_2 (X : px_X) (M : Nat → Nat → Int32) (J : Nat → Nat → Int64) (R : Nat → Nat → Option Nat) (c e : Nat) (nL : Nat) (xs : Nat → Int32) (D : px_H) (w0 : Int32) : px_p (kX12_term X) 4 2 ([some (.ref 67)], [.int (w0)], (hp M J R c e nL xs D)) =
    cond (decide (¬ w0 = 0))
    (px_run (px_mk (kX12_term X)) 38 ([some (.ref 67)], [], (hp M J R c e nL xs D)))
    (cond (decide (¬ M 67 59 = 42))
    (px_run (px_mk (kX12_term X)) 38 ([some (.ref 67)], [], (hp M J R c e nL xs D)))
    (px_bd (X 211 [.ref 67] (hp M J R c e nL xs D))
    (fun v G1 => px_p (kX12_term X) 4 9 ([some (.ref 67)], px_psh v [], G1)))) := rfl
set_option maxRecDepth 40000 in
theorem eX12_term_38 (X : px_X) (M : Nat → Nat → Int32) (J : Nat → Nat → Int64) (R : Nat → Nat → Option Nat) (c e : Nat) (nL : Nat) (xs : Nat → Int32) (D : px_H) (o0 : Option Value) : px_run (px_mk (kX12_term X)) 38 ([o0], [], (hp M J R c e nL xs D)) =
    some (none, (hp M J R c e nL xs D)) := (px_run_eq _ _ _).trans rfl
set_option maxRecDepth 40000 in
theorem eX12_term_4_9 (X : px_X) (M : Nat → Nat → Int32) (J : Nat → Nat → Int64) (R : Nat → Nat → Option Nat) (c e : Nat) (nL : Nat) (xs : Nat → Int32) (D : px_H)  : px_p (kX12_term X) 4 9 ([some (.ref 67)], [], (hp M J R c e nL xs D)) =
    px_bd (X 225 [.ref 67] (hp M J R c e nL xs D))
    (fun v G1 => px_p (kX12_term X) 4 11 ([some (.ref 67)], px_psh v [], G1)) := rfl
set_option maxRecDepth 40000 in
theorem eX12_term_4_11 (X : px_X) (M : Nat → Nat → Int32) (J : Nat → Nat → Int64) (R : Nat → Nat → Option Nat) (c e : Nat) (nL : Nat) (xs : Nat → Int32) (D : px_H)  : px_p (kX12_term X) 4 11 ([some (.ref 67)], [], (hp M J R c e nL xs D)) =
    px_bd (X 218 [.ref 67, .int (9), .int (0)] (hp M J R c e nL xs D))
    (fun v G1 => px_p (kX12_term X) 4 15 ([some (.ref 67)], px_psh v [], G1)) := rfl
set_option maxRecDepth 40000 in
theorem eX12_term_4_15 (X : px_X) (M : Nat → Nat → Int32) (J : Nat → Nat → Int64) (R : Nat → Nat → Option Nat) (c e : Nat) (nL : Nat) (xs : Nat → Int32) (D : px_H)  : px_p (kX12_term X) 4 15 ([some (.ref 67)], [], (hp M J R c e nL xs D)) =
    px_run (px_mk (kX12_term X)) 4 ([some (.ref 67)], [], (hp M J R c e nL xs D)) := rfl
set_option maxRecDepth 40000 in
theorem eX12_one_0 (X : px_X) (M : Nat → Nat → Int32) (J : Nat → Nat → Int64) (R : Nat → Nat → Option Nat) (c e : Nat) (nL : Nat) (xs : Nat → Int32) (D : px_H)  : px_run (px_mk (kX12_one X)) 0 ([some (.ref 67)], [], (hp M J R c e nL xs D)) =
    px_bd (X 214 [.ref 67] (hp M J R c e nL xs D))
    (fun v G1 => px_p (kX12_one X) 0 2 ([some (.ref 67)], px_psh v [], G1)) := (px_run_eq _ _ _).trans rfl
set_option maxRecDepth 40000 in
theorem eX12_one_0_2 (X : px_X) (M : Nat → Nat → Int32) (J : Nat → Nat → Int64) (R : Nat → Nat → Option Nat) (c e : Nat) (nL : Nat) (xs : Nat → Int32) (D : px_H) (w0 : Int32) : px_p (kX12_one X) 0 2 ([some (.ref 67)], [.int (w0)], (hp M J R c e nL xs D)) =
    cond (decide (w0 = 0))
    (px_run (px_mk (kX12_one X)) 8 ([some (.ref 67)], [], (hp M J R c e nL xs D)))
    (some (none, (hp M J R c e nL xs D))) := rfl
set_option maxRecDepth 40000 in
theorem eX12_one_8 (X : px_X) (M : Nat → Nat → Int32) (J : Nat → Nat → Int64) (R : Nat → Nat → Option Nat) (c e : Nat) (nL : Nat) (xs : Nat → Int32) (D : px_H)  : px_run (px_mk (kX12_one X)) 8 ([some (.ref 67)], [], (hp M J R c e nL xs D)) =
    cond (decide (M 67 59 = 1))
    (px_run (px_mk (kX12_one X)) 24 ([some (.ref 67)], [], (hp M J R c e nL xs D)))
    (cond (decide (¬ M 67 59 = 3))
    (px_run (px_mk (kX12_one X)) 52 ([some (.ref 67)], [], (hp M J R c e nL xs D)))
    (px_run (px_mk (kX12_one X)) 24 ([some (.ref 67)], [], (hp M J R c e nL xs D)))) := (px_run_eq _ _ _).trans rfl
set_option maxRecDepth 40000 in
theorem eX12_one_24 (X : px_X) (M : Nat → Nat → Int32) (J : Nat → Nat → Int64) (R : Nat → Nat → Option Nat) (c e : Nat) (nL : Nat) (xs : Nat → Int32) (D : px_H)  : px_run (px_mk (kX12_one X)) 24 ([some (.ref 67)], [], (hp M J R c e nL xs D)) =
    cond (decide (¬ M 67 59 = 1))
    (px_run (px_mk (kX12_one X)) 37 ([some (.ref 67)], [.ref 67], (hp M J R c e nL xs D)))
    (px_run (px_mk (kX12_one X)) 38 ([some (.ref 67)], [.int (0), .ref 67], (hp M J R c e nL xs D))) := (px_run_eq _ _ _).trans rfl
set_option maxRecDepth 40000 in
theorem eX12_one_52 (X : px_X) (M : Nat → Nat → Int32) (J : Nat → Nat → Int64) (R : Nat → Nat → Option Nat) (c e : Nat) (nL : Nat) (xs : Nat → Int32) (D : px_H)  : px_run (px_mk (kX12_one X)) 52 ([some (.ref 67)], [], (hp M J R c e nL xs D)) =
    cond (decide (¬ M 67 59 = 45))
    (px_run (px_mk (kX12_one X)) 89 ([some (.ref 67)], [], (hp M J R c e nL xs D)))
    (px_bd (X 217 [.ref 67] (hp M J R c e nL xs D))
    (fun v G1 => px_p (kX12_one X) 52 6 ([some (.ref 67)], px_psh v [], G1))) := (px_run_eq _ _ _).trans rfl
set_option maxRecDepth 40000 in
theorem eX12_one_37 (X : px_X) (M : Nat → Nat → Int32) (J : Nat → Nat → Int64) (R : Nat → Nat → Option Nat) (c e : Nat) (nL : Nat) (xs : Nat → Int32) (D : px_H)  : px_run (px_mk (kX12_one X)) 37 ([some (.ref 67)], [.ref 67], (hp M J R c e nL xs D)) =
    px_run (px_mk (kX12_one X)) 38 ([some (.ref 67)], [.int (1), .ref 67], (hp M J R c e nL xs D)) := (px_run_eq _ _ _).trans rfl
set_option maxRecDepth 40000 in
theorem eX12_one_38 (X : px_X) (M : Nat → Nat → Int32) (J : Nat → Nat → Int64) (R : Nat → Nat → Option Nat) (c e : Nat) (nL : Nat) (xs : Nat → Int32) (D : px_H) (w1 : Int32) : px_run (px_mk (kX12_one X)) 38 ([some (.ref 67)], [.int (w1), .ref 67], (hp M J R c e nL xs D)) =
    px_bd (X 218 [.ref 67, .int (w1), .int (M 67 60)] (hp M J R c e nL xs D))
    (fun v G1 => px_p (kX12_one X) 38 3 ([some (.ref 67)], px_psh v [], G1)) := (px_run_eq _ _ _).trans rfl
set_option maxRecDepth 40000 in
theorem eX12_one_89 (X : px_X) (M : Nat → Nat → Int32) (J : Nat → Nat → Int64) (R : Nat → Nat → Option Nat) (c e : Nat) (nL : Nat) (xs : Nat → Int32) (D : px_H)  : px_run (px_mk (kX12_one X)) 89 ([some (.ref 67)], [], (hp M J R c e nL xs D)) =
    cond (decide (¬ M 67 59 = 40))
    (px_run (px_mk (kX12_one X)) 125 ([some (.ref 67)], [], (hp M J R c e nL xs D)))
    (px_bd (X 217 [.ref 67] (hp M J R c e nL xs D))
    (fun v G1 => px_p (kX12_one X) 89 6 ([some (.ref 67)], px_psh v [], G1))) := (px_run_eq _ _ _).trans rfl
set_option maxRecDepth 40000 in
theorem eX12_one_52_6 (X : px_X) (M : Nat → Nat → Int32) (J : Nat → Nat → Int64) (R : Nat → Nat → Option Nat) (c e : Nat) (nL : Nat) (xs : Nat → Int32) (D : px_H)  : px_p (kX12_one X) 52 6 ([some (.ref 67)], [], (hp M J R c e nL xs D)) =
    px_bd (X 225 [.ref 67] (hp M J R c e nL xs D))
    (fun v G1 => px_p (kX12_one X) 52 8 ([some (.ref 67)], px_psh v [], G1)) := rfl
set_option maxRecDepth 40000 in
theorem eX12_one_38_3 (X : px_X) (M : Nat → Nat → Int32) (J : Nat → Nat → Int64) (R : Nat → Nat → Option Nat) (c e : Nat) (nL : Nat) (xs : Nat → Int32) (D : px_H)  : px_p (kX12_one X) 38 3 ([some (.ref 67)], [], (hp M J R c e nL xs D)) =
    px_bd (X 211 [.ref 67] (hp M J R c e nL xs D))
    (fun v G1 => px_p (kX12_one X) 38 5 ([some (.ref 67)], px_psh v [], G1)) := rfl
set_option maxRecDepth 40000 in
theorem eX12_one_125_2 (X : px_X) (st : px_S) : px_p (kX12_one X) 125 2 st = px_run (px_mk (kX12_one X)) 129 st := rfl
set_option maxRecDepth 40000 in
theorem eX12_one_125 (X : px_X) (M : Nat → Nat → Int32) (J : Nat → Nat → Int64) (R : Nat → Nat → Option Nat) (c e : Nat) (nL : Nat) (xs : Nat → Int32) (D : px_H)  : px_run (px_mk (kX12_one X)) 125 ([some (.ref 67)], [], (hp M J R c e nL xs D)) =
    px_bd (X 215 [.ref 67] (hp M J R c e nL xs D))
    (fun v G1 => px_p (kX12_one X) 125 2 ([some (.ref 67)], px_psh v [], G1)) := (px_run_eq _ _ _).trans rfl
set_option maxRecDepth 40000 in
theorem eX12_one_89_6 (X : px_X) (M : Nat → Nat → Int32) (J : Nat → Nat → Int64) (R : Nat → Nat → Option Nat) (c e : Nat) (nL : Nat) (xs : Nat → Int32) (D : px_H)  : px_p (kX12_one X) 89 6 ([some (.ref 67)], [], (hp M J R c e nL xs D)) =
    px_bd (X 220 [.ref 67] (hp M J R c e nL xs D))
    (fun v G1 => px_p (kX12_one X) 89 8 ([some (.ref 67)], px_psh v [], G1)) := rfl
set_option maxRecDepth 40000 in
theorem eX12_one_52_8 (X : px_X) (M : Nat → Nat → Int32) (J : Nat → Nat → Int64) (R : Nat → Nat → Option Nat) (c e : Nat) (nL : Nat) (xs : Nat → Int32) (D : px_H)  : px_p (kX12_one X) 52 8 ([some (.ref 67)], [], (hp M J R c e nL xs D)) =
    px_bd (X 218 [.ref 67, .int (10), .int (0)] (hp (px_uR M 67 (upd (M 67) 62 ((M 67 62 - 1)))) J R c e nL xs D))
    (fun v G1 => px_p (kX12_one X) 52 18 ([some (.ref 67)], px_psh v [], G1)) := rfl
set_option maxRecDepth 40000 in
theorem eX12_one_38_5 (X : px_X) (M : Nat → Nat → Int32) (J : Nat → Nat → Int64) (R : Nat → Nat → Option Nat) (c e : Nat) (nL : Nat) (xs : Nat → Int32) (D : px_H)  : px_p (kX12_one X) 38 5 ([some (.ref 67)], [], (hp M J R c e nL xs D)) =
    px_run (px_mk (kX12_one X)) 129 ([some (.ref 67)], [], (hp M J R c e nL xs D)) := rfl
set_option maxRecDepth 40000 in
theorem eX12_one_129 (X : px_X) (M : Nat → Nat → Int32) (J : Nat → Nat → Int64) (R : Nat → Nat → Option Nat) (c e : Nat) (nL : Nat) (xs : Nat → Int32) (D : px_H) (o0 : Option Value) : px_run (px_mk (kX12_one X)) 129 ([o0], [], (hp M J R c e nL xs D)) =
    some (none, (hp M J R c e nL xs D)) := (px_run_eq _ _ _).trans rfl
set_option maxRecDepth 40000 in
theorem eX12_one_89_8 (X : px_X) (M : Nat → Nat → Int32) (J : Nat → Nat → Int64) (R : Nat → Nat → Option Nat) (c e : Nat) (nL : Nat) (xs : Nat → Int32) (D : px_H)  : px_p (kX12_one X) 89 8 ([some (.ref 67)], [], (hp M J R c e nL xs D)) =
    px_bd (X 216 [.ref 67, .int (41)] (hp M J R c e nL xs D))
    (fun v G1 => px_p (kX12_one X) 89 11 ([some (.ref 67)], px_psh v [], G1)) := rfl
set_option maxRecDepth 40000 in
theorem eX12_one_52_18 (X : px_X) (M : Nat → Nat → Int32) (J : Nat → Nat → Int64) (R : Nat → Nat → Option Nat) (c e : Nat) (nL : Nat) (xs : Nat → Int32) (D : px_H)  : px_p (kX12_one X) 52 18 ([some (.ref 67)], [], (hp M J R c e nL xs D)) =
    px_run (px_mk (kX12_one X)) 129 ([some (.ref 67)], [], (hp M J R c e nL xs D)) := rfl
set_option maxRecDepth 40000 in
theorem eX12_one_89_11 (X : px_X) (M : Nat → Nat → Int32) (J : Nat → Nat → Int64) (R : Nat → Nat → Option Nat) (c e : Nat) (nL : Nat) (xs : Nat → Int32) (D : px_H)  : px_p (kX12_one X) 89 11 ([some (.ref 67)], [], (hp M J R c e nL xs D)) =
    px_run (px_mk (kX12_one X)) 129 ([some (.ref 67)], [], (hp (px_uR M 67 (upd (M 67) 62 ((M 67 62 - 1)))) J R c e nL xs D)) := rfl
set_option maxRecDepth 40000 in
theorem eX12_feed_0 (X : px_X) (M : Nat → Nat → Int32) (J : Nat → Nat → Int64) (R : Nat → Nat → Option Nat) (c e : Nat) (nL : Nat) (xs : Nat → Int32) (D : px_H) (v1 : Int32) (v2 : Int64) : px_run (px_mk (kX12_feed X)) 0 ([some (.ref 67), some (.int (v1)), some (.long (v2)), none, none], [], (hp M J R c e nL xs D)) =
    px_bd (X 165 [.int (v1), .int (1), .int (8)] (hp M J R c e nL xs D))
    (fun v G1 => px_p (kX12_feed X) 0 4 ([some (.ref 67), some (.int (v1)), some (.long (v2)), none, none], px_psh v [], G1)) := (px_run_eq _ _ _).trans rfl
set_option maxRecDepth 40000 in
theorem eX12_feed_0_4 (X : px_X) (M : Nat → Nat → Int32) (J : Nat → Nat → Int64) (R : Nat → Nat → Option Nat) (c e : Nat) (nL : Nat) (xs : Nat → Int32) (D : px_H) (v1 : Int32) (v2 : Int64) (w0 : Int32) : px_p (kX12_feed X) 0 4 ([some (.ref 67), some (.int (v1)), some (.long (v2)), none, none], [.int (w0)], (hp M J R c e nL xs D)) =
    cond (decide (¬ w0 = 0))
    (px_run (px_mk (kX12_feed X)) 13 ([some (.ref 67), some (.int (v1)), some (.long (v2)), none, none], [], (hp M J R c e nL xs D)))
    (some (some (.int ((-2))), (hp M J R c e nL xs D))) := rfl
set_option maxRecDepth 40000 in
theorem eX12_feed_13 (X : px_X) (M : Nat → Nat → Int32) (J : Nat → Nat → Int64) (R : Nat → Nat → Option Nat) (c e : Nat) (nL : Nat) (xs : Nat → Int32) (D : px_H) (v1 : Int32) (v2 : Int64) (o4 : Option Value) : px_run (px_mk (kX12_feed X)) 13 ([some (.ref 67), some (.int (v1)), some (.long (v2)), none, o4], [], (hp M J R c e nL xs D)) =
    cond (decide ((M 67 37 + v1) ≤ 160))
    (px_run (px_mk (kX12_feed X)) 28 ([some (.ref 67), some (.int (v1)), some (.long (v2)), none, none], [], (hp M J R c e nL xs D)))
    (some (some (.int ((-4))), (hp M J R c e nL xs D))) := (px_run_eq _ _ _).trans rfl
set_option maxRecDepth 40000 in
theorem eX12_feed_28 (X : px_X) (M : Nat → Nat → Int32) (J : Nat → Nat → Int64) (R : Nat → Nat → Option Nat) (c e : Nat) (nL : Nat) (xs : Nat → Int32) (D : px_H) (v1 : Int32) (v2 : Int64) (o4 : Option Value) : px_run (px_mk (kX12_feed X)) 28 ([some (.ref 67), some (.int (v1)), some (.long (v2)), none, o4], [], (hp M J R c e nL xs D)) =
    px_run (px_mk (kX12_feed X)) 31 ([some (.ref 67), some (.int (v1)), some (.long (v2)), none, some (.int (0))], [], (hp M J R c e nL xs D)) := (px_run_eq _ _ _).trans rfl
set_option maxRecDepth 40000 in
theorem eX12_feed_31 (X : px_X) (M : Nat → Nat → Int32) (J : Nat → Nat → Int64) (R : Nat → Nat → Option Nat) (c e : Nat) (nL : Nat) (xs : Nat → Int32) (D : px_H) (v1 : Int32) (v2 : Int64) (v4 : Int32) : px_run (px_mk (kX12_feed X)) 31 ([some (.ref 67), some (.int (v1)), some (.long (v2)), none, some (.int (v4))], [], (hp M J R c e nL xs D)) =
    cond (decide (v1 ≤ v4))
    (px_run (px_mk (kX12_feed X)) 74 ([some (.ref 67), some (.int (v1)), some (.long (v2)), none, some (.int (v4))], [], (hp M J R c e nL xs D)))
    (cond (px_inb (M 67 37) 160)
    (px_run (px_mk (kX12_feed X)) 31 ([some (.ref 67), some (.int (v1)), some (.long (v2)), none, some (.int ((v4 + 1)))], [], (hp (px_uR (px_uR M 95 (upd (M 95) (Int32.toNatClampNeg (M 67 37)) ((Int64.toInt32 ((v2 >>> (Int32.toInt64 ((8 * v4)) &&& 63)) &&& 255))))) 67 (upd (M 67) 37 ((M 67 37 + 1)))) J R c e nL xs D))) none) := (px_run_eq _ _ _).trans rfl
set_option maxRecDepth 40000 in
theorem eX12_feed_74 (X : px_X) (M : Nat → Nat → Int32) (J : Nat → Nat → Int64) (R : Nat → Nat → Option Nat) (c e : Nat) (nL : Nat) (xs : Nat → Int32) (D : px_H) (o1 : Option Value) (o2 : Option Value) (o3 : Option Value) (o4 : Option Value) : px_run (px_mk (kX12_feed X)) 74 ([some (.ref 67), o1, o2, o3, o4], [], (hp M J R c e nL xs D)) =
    some (some (.int (M 67 37)), (hp M J R c e nL xs D)) := (px_run_eq _ _ _).trans rfl
set_option maxRecDepth 40000 in
theorem eX12_rule_0 (X : px_X) (M : Nat → Nat → Int32) (J : Nat → Nat → Int64) (R : Nat → Nat → Option Nat) (c e : Nat) (nL : Nat) (xs : Nat → Int32) (D : px_H)  : px_run (px_mk (kX12_rule X)) 0 ([some (.ref 67), none, none], [], (hp M J R c e nL xs D)) =
    px_bd (X 219 [.ref 67] (hp (px_uR M 67 (upd (upd (M 67) 55 (M 67 37)) 37 (0))) J R c e nL xs D))
    (fun v G1 => px_p (kX12_rule X) 0 9 ([some (.ref 67), none, none], px_psh v [], G1)) := (px_run_eq _ _ _).trans rfl
set_option maxRecDepth 40000 in
theorem eX12_rule_0_9 (X : px_X) (M : Nat → Nat → Int32) (J : Nat → Nat → Int64) (R : Nat → Nat → Option Nat) (c e : Nat) (nL : Nat) (xs : Nat → Int32) (D : px_H) (w0 : Int32) : px_p (kX12_rule X) 0 9 ([some (.ref 67), none, none], [.int (w0)], (hp M J R c e nL xs D)) =
    px_bd (X 214 [.ref 67] (hp M J R c e nL xs D))
    (fun v G1 => px_p (kX12_rule X) 0 12 ([some (.ref 67), some (.int (w0)), none], px_psh v [], G1)) := rfl
set_option maxRecDepth 40000 in
theorem eX12_rule_0_12 (X : px_X) (M : Nat → Nat → Int32) (J : Nat → Nat → Int64) (R : Nat → Nat → Option Nat) (c e : Nat) (nL : Nat) (xs : Nat → Int32) (D : px_H) (v1 : Int32) (w0 : Int32) : px_p (kX12_rule X) 0 12 ([some (.ref 67), some (.int (v1)), none], [.int (w0)], (hp M J R c e nL xs D)) =
    cond (decide (w0 = 0))
    (px_run (px_mk (kX12_rule X)) 33 ([some (.ref 67), some (.int (v1)), none], [], (hp M J R c e nL xs D)))
    (some (some (.int (((-100) - M 67 61))), (hp M J R c e nL xs D))) := rfl
set_option maxRecDepth 40000 in
theorem eX12_rule_33 (X : px_X) (M : Nat → Nat → Int32) (J : Nat → Nat → Int64) (R : Nat → Nat → Option Nat) (c e : Nat) (nL : Nat) (xs : Nat → Int32) (D : px_H) (v1 : Int32) (o2 : Option Value) : px_run (px_mk (kX12_rule X)) 33 ([some (.ref 67), some (.int (v1)), o2], [], (hp M J R c e nL xs D)) =
    px_run (px_mk (kX12_rule X)) 40 ([some (.ref 67), some (.int (v1)), some (.int (0))], [], (hp (px_uR M 67 (upd (M 67) 38 (v1))) J R c e nL xs D)) := (px_run_eq _ _ _).trans rfl
set_option maxRecDepth 40000 in
theorem eX12_rule_40 (X : px_X) (M : Nat → Nat → Int32) (J : Nat → Nat → Int64) (R : Nat → Nat → Option Nat) (c e : Nat) (nL : Nat) (xs : Nat → Int32) (D : px_H) (v1 : Int32) (v2 : Int32) : px_run (px_mk (kX12_rule X)) 40 ([some (.ref 67), some (.int (v1)), some (.int (v2))], [], (hp M J R c e nL xs D)) =
    cond (decide (M 67 63 ≤ v2))
    (px_run (px_mk (kX12_rule X)) 86 ([some (.ref 67), some (.int (v1)), some (.int (v2))], [], (hp M J R c e nL xs D)))
    (cond (px_inb ((160 + v2)) 320)
    (cond (px_inb (v2) 320)
    (cond (px_inb ((160 + v2)) 320)
    (cond (px_inb (v2) 320)
    (px_run (px_mk (kX12_rule X)) 40 ([some (.ref 67), some (.int (v1)), some (.int ((v2 + 1)))], [], (hp (px_uR (px_uR M 96 (upd (M 96) (Int32.toNatClampNeg (v2)) (((M 96) (Int32.toNatClampNeg ((160 + v2))))))) 97 (upd (M 97) (Int32.toNatClampNeg (v2)) (((M 97) (Int32.toNatClampNeg ((160 + v2))))))) J R c e nL xs D))) none) none) none) none) := (px_run_eq _ _ _).trans rfl
set_option maxRecDepth 40000 in
theorem eX12_rule_86 (X : px_X) (M : Nat → Nat → Int32) (J : Nat → Nat → Int64) (R : Nat → Nat → Option Nat) (c e : Nat) (nL : Nat) (xs : Nat → Int32) (D : px_H) (v1 : Int32) (o2 : Option Value) : px_run (px_mk (kX12_rule X)) 86 ([some (.ref 67), some (.int (v1)), o2], [], (hp M J R c e nL xs D)) =
    px_run (px_mk (kX12_rule X)) 88 ([some (.ref 67), some (.int (v1)), some (.int (0))], [], (hp M J R c e nL xs D)) := (px_run_eq _ _ _).trans rfl
set_option maxRecDepth 40000 in
theorem eX12_rule_88 (X : px_X) (M : Nat → Nat → Int32) (J : Nat → Nat → Int64) (R : Nat → Nat → Option Nat) (c e : Nat) (nL : Nat) (xs : Nat → Int32) (D : px_H) (v1 : Int32) (v2 : Int32) : px_run (px_mk (kX12_rule X)) 88 ([some (.ref 67), some (.int (v1)), some (.int (v2))], [], (hp M J R c e nL xs D)) =
    cond (decide (v1 < v2))
    (px_run (px_mk (kX12_rule X)) 114 ([some (.ref 67), some (.int (v1)), some (.int (v2))], [], (hp M J R c e nL xs D)))
    (cond (px_inb ((8 + v2)) 16)
    (cond (px_inb (v2) 16)
    (px_run (px_mk (kX12_rule X)) 88 ([some (.ref 67), some (.int (v1)), some (.int ((v2 + 1)))], [], (hp (px_uR M 98 (upd (M 98) (Int32.toNatClampNeg (v2)) (((M 98) (Int32.toNatClampNeg ((8 + v2))))))) J R c e nL xs D))) none) none) := (px_run_eq _ _ _).trans rfl
set_option maxRecDepth 40000 in
theorem eX12_rule_114 (X : px_X) (M : Nat → Nat → Int32) (J : Nat → Nat → Int64) (R : Nat → Nat → Option Nat) (c e : Nat) (nL : Nat) (xs : Nat → Int32) (D : px_H) (o0 : Option Value) (v1 : Int32) (o2 : Option Value) : px_run (px_mk (kX12_rule X)) 114 ([o0, some (.int (v1)), o2], [], (hp M J R c e nL xs D)) =
    some (some (.int (v1)), (hp M J R c e nL xs D)) := (px_run_eq _ _ _).trans rfl
set_option maxRecDepth 40000 in
theorem eX12_two_0 (X : px_X) (M : Nat → Nat → Int32) (J : Nat → Nat → Int64) (R : Nat → Nat → Option Nat) (c e : Nat) (nL : Nat) (xs : Nat → Int32) (D : px_H) (v0 : Int32) (v1 : Int32) (v2 : Int32) : px_run (px_mk (kX12_two X)) 0 ([some (.int (v0)), some (.int (v1)), some (.int (v2))], [], (hp M J R c e nL xs D)) =
    cond (decide (v0 = 2))
    (px_run (px_mk (kX12_two X)) 44 ([some (.int (v0)), some (.int (v1)), some (.int (v2))], [], (hp M J R c e nL xs D)))
    (cond (decide (v0 = 3))
    (px_run (px_mk (kX12_two X)) 58 ([some (.int (v0)), some (.int (v1)), some (.int (v2))], [], (hp M J R c e nL xs D)))
    (cond (decide (v0 = 4))
    (px_run (px_mk (kX12_two X)) 102 ([some (.int (v0)), some (.int (v1)), some (.int (v2))], [], (hp M J R c e nL xs D)))
    (cond (decide (v0 = 5))
    (px_run (px_mk (kX12_two X)) 72 ([some (.int (v0)), some (.int (v1)), some (.int (v2))], [], (hp M J R c e nL xs D)))
    (cond (decide (v0 = 6))
    (px_run (px_mk (kX12_two X)) 83 ([some (.int (v0)), some (.int (v1)), some (.int (v2))], [], (hp M J R c e nL xs D)))
    (cond (decide (v0 = 7))
    (px_run (px_mk (kX12_two X)) 94 ([some (.int (v0)), some (.int (v1)), some (.int (v2))], [], (hp M J R c e nL xs D)))
    (cond (decide (v0 = 8))
    (px_run (px_mk (kX12_two X)) 98 ([some (.int (v0)), some (.int (v1)), some (.int (v2))], [], (hp M J R c e nL xs D)))
    (px_run (px_mk (kX12_two X)) 102 ([some (.int (v0)), some (.int (v1)), some (.int (v2))], [], (hp M J R c e nL xs D))))))))) := (px_run_eq _ _ _).trans rfl
set_option maxRecDepth 40000 in
theorem eX12_two_102 (X : px_X) (M : Nat → Nat → Int32) (J : Nat → Nat → Int64) (R : Nat → Nat → Option Nat) (c e : Nat) (nL : Nat) (xs : Nat → Int32) (D : px_H) (o0 : Option Value) (v1 : Int32) (v2 : Int32) : px_run (px_mk (kX12_two X)) 102 ([o0, some (.int (v1)), some (.int (v2))], [], (hp M J R c e nL xs D)) =
    some (some (.int ((v1 * v2))), (hp M J R c e nL xs D)) := (px_run_eq _ _ _).trans rfl
set_option maxRecDepth 40000 in
theorem eX12_two_98 (X : px_X) (M : Nat → Nat → Int32) (J : Nat → Nat → Int64) (R : Nat → Nat → Option Nat) (c e : Nat) (nL : Nat) (xs : Nat → Int32) (D : px_H) (o0 : Option Value) (v1 : Int32) (v2 : Int32) : px_run (px_mk (kX12_two X)) 98 ([o0, some (.int (v1)), some (.int (v2))], [], (hp M J R c e nL xs D)) =
    some (some (.int ((v1 - v2))), (hp M J R c e nL xs D)) := (px_run_eq _ _ _).trans rfl
set_option maxRecDepth 40000 in
theorem eX12_two_94 (X : px_X) (M : Nat → Nat → Int32) (J : Nat → Nat → Int64) (R : Nat → Nat → Option Nat) (c e : Nat) (nL : Nat) (xs : Nat → Int32) (D : px_H) (o0 : Option Value) (v1 : Int32) (v2 : Int32) : px_run (px_mk (kX12_two X)) 94 ([o0, some (.int (v1)), some (.int (v2))], [], (hp M J R c e nL xs D)) =
    some (some (.int ((v1 + v2))), (hp M J R c e nL xs D)) := (px_run_eq _ _ _).trans rfl
set_option maxRecDepth 40000 in
theorem eX12_two_83 (X : px_X) (M : Nat → Nat → Int32) (J : Nat → Nat → Int64) (R : Nat → Nat → Option Nat) (c e : Nat) (nL : Nat) (xs : Nat → Int32) (D : px_H) (o0 : Option Value) (v1 : Int32) (v2 : Int32) : px_run (px_mk (kX12_two X)) 83 ([o0, some (.int (v1)), some (.int (v2))], [], (hp M J R c e nL xs D)) =
    cond (decide (¬ v1 = v2))
    (px_run (px_mk (kX12_two X)) 92 ([none, some (.int (v1)), some (.int (v2))], [], (hp M J R c e nL xs D)))
    (px_run (px_mk (kX12_two X)) 93 ([none, some (.int (v1)), some (.int (v2))], [.int (1)], (hp M J R c e nL xs D))) := (px_run_eq _ _ _).trans rfl
set_option maxRecDepth 40000 in
theorem eX12_two_72 (X : px_X) (M : Nat → Nat → Int32) (J : Nat → Nat → Int64) (R : Nat → Nat → Option Nat) (c e : Nat) (nL : Nat) (xs : Nat → Int32) (D : px_H) (o0 : Option Value) (v1 : Int32) (v2 : Int32) : px_run (px_mk (kX12_two X)) 72 ([o0, some (.int (v1)), some (.int (v2))], [], (hp M J R c e nL xs D)) =
    cond (decide (v2 ≤ v1))
    (px_run (px_mk (kX12_two X)) 81 ([none, some (.int (v1)), some (.int (v2))], [], (hp M J R c e nL xs D)))
    (px_run (px_mk (kX12_two X)) 82 ([none, some (.int (v1)), some (.int (v2))], [.int (1)], (hp M J R c e nL xs D))) := (px_run_eq _ _ _).trans rfl
set_option maxRecDepth 40000 in
theorem eX12_two_58 (X : px_X) (M : Nat → Nat → Int32) (J : Nat → Nat → Int64) (R : Nat → Nat → Option Nat) (c e : Nat) (nL : Nat) (xs : Nat → Int32) (D : px_H) (o0 : Option Value) (v1 : Int32) (v2 : Int32) : px_run (px_mk (kX12_two X)) 58 ([o0, some (.int (v1)), some (.int (v2))], [], (hp M J R c e nL xs D)) =
    cond (decide (v1 = 0))
    (px_run (px_mk (kX12_two X)) 70 ([none, some (.int (v1)), some (.int (v2))], [], (hp M J R c e nL xs D)))
    (cond (decide (v2 = 0))
    (px_run (px_mk (kX12_two X)) 70 ([none, some (.int (v1)), some (.int (v2))], [], (hp M J R c e nL xs D)))
    (px_run (px_mk (kX12_two X)) 71 ([none, some (.int (v1)), some (.int (v2))], [.int (1)], (hp M J R c e nL xs D)))) := (px_run_eq _ _ _).trans rfl
set_option maxRecDepth 40000 in
theorem eX12_two_44 (X : px_X) (M : Nat → Nat → Int32) (J : Nat → Nat → Int64) (R : Nat → Nat → Option Nat) (c e : Nat) (nL : Nat) (xs : Nat → Int32) (D : px_H) (o0 : Option Value) (v1 : Int32) (v2 : Int32) : px_run (px_mk (kX12_two X)) 44 ([o0, some (.int (v1)), some (.int (v2))], [], (hp M J R c e nL xs D)) =
    cond (decide (¬ v1 = 0))
    (px_run (px_mk (kX12_two X)) 52 ([none, some (.int (v1)), some (.int (v2))], [], (hp M J R c e nL xs D)))
    (cond (decide (v2 = 0))
    (px_run (px_mk (kX12_two X)) 56 ([none, some (.int (v1)), some (.int (v2))], [], (hp M J R c e nL xs D)))
    (px_run (px_mk (kX12_two X)) 52 ([none, some (.int (v1)), some (.int (v2))], [], (hp M J R c e nL xs D)))) := (px_run_eq _ _ _).trans rfl
set_option maxRecDepth 40000 in
theorem eX12_two_92 (X : px_X) (M : Nat → Nat → Int32) (J : Nat → Nat → Int64) (R : Nat → Nat → Option Nat) (c e : Nat) (nL : Nat) (xs : Nat → Int32) (D : px_H) (o0 : Option Value) (o1 : Option Value) (o2 : Option Value) : px_run (px_mk (kX12_two X)) 92 ([o0, o1, o2], [], (hp M J R c e nL xs D)) =
    px_run (px_mk (kX12_two X)) 93 ([none, none, none], [.int (0)], (hp M J R c e nL xs D)) := (px_run_eq _ _ _).trans rfl
set_option maxRecDepth 40000 in
theorem eX12_two_93 (X : px_X) (M : Nat → Nat → Int32) (J : Nat → Nat → Int64) (R : Nat → Nat → Option Nat) (c e : Nat) (nL : Nat) (xs : Nat → Int32) (D : px_H) (o0 : Option Value) (o1 : Option Value) (o2 : Option Value) (w0 : Int32) : px_run (px_mk (kX12_two X)) 93 ([o0, o1, o2], [.int (w0)], (hp M J R c e nL xs D)) =
    some (some (.int (w0)), (hp M J R c e nL xs D)) := (px_run_eq _ _ _).trans rfl
set_option maxRecDepth 40000 in
theorem eX12_two_81 (X : px_X) (M : Nat → Nat → Int32) (J : Nat → Nat → Int64) (R : Nat → Nat → Option Nat) (c e : Nat) (nL : Nat) (xs : Nat → Int32) (D : px_H) (o0 : Option Value) (o1 : Option Value) (o2 : Option Value) : px_run (px_mk (kX12_two X)) 81 ([o0, o1, o2], [], (hp M J R c e nL xs D)) =
    px_run (px_mk (kX12_two X)) 82 ([none, none, none], [.int (0)], (hp M J R c e nL xs D)) := (px_run_eq _ _ _).trans rfl
set_option maxRecDepth 40000 in
theorem eX12_two_82 (X : px_X) (M : Nat → Nat → Int32) (J : Nat → Nat → Int64) (R : Nat → Nat → Option Nat) (c e : Nat) (nL : Nat) (xs : Nat → Int32) (D : px_H) (o0 : Option Value) (o1 : Option Value) (o2 : Option Value) (w0 : Int32) : px_run (px_mk (kX12_two X)) 82 ([o0, o1, o2], [.int (w0)], (hp M J R c e nL xs D)) =
    some (some (.int (w0)), (hp M J R c e nL xs D)) := (px_run_eq _ _ _).trans rfl
set_option maxRecDepth 40000 in
theorem eX12_two_70 (X : px_X) (M : Nat → Nat → Int32) (J : Nat → Nat → Int64) (R : Nat → Nat → Option Nat) (c e : Nat) (nL : Nat) (xs : Nat → Int32) (D : px_H) (o0 : Option Value) (o1 : Option Value) (o2 : Option Value) : px_run (px_mk (kX12_two X)) 70 ([o0, o1, o2], [], (hp M J R c e nL xs D)) =
    px_run (px_mk (kX12_two X)) 71 ([none, none, none], [.int (0)], (hp M J R c e nL xs D)) := (px_run_eq _ _ _).trans rfl
set_option maxRecDepth 40000 in
theorem eX12_two_71 (X : px_X) (M : Nat → Nat → Int32) (J : Nat → Nat → Int64) (R : Nat → Nat → Option Nat) (c e : Nat) (nL : Nat) (xs : Nat → Int32) (D : px_H) (o0 : Option Value) (o1 : Option Value) (o2 : Option Value) (w0 : Int32) : px_run (px_mk (kX12_two X)) 71 ([o0, o1, o2], [.int (w0)], (hp M J R c e nL xs D)) =
    some (some (.int (w0)), (hp M J R c e nL xs D)) := (px_run_eq _ _ _).trans rfl
set_option maxRecDepth 40000 in
theorem eX12_two_52 (X : px_X) (M : Nat → Nat → Int32) (J : Nat → Nat → Int64) (R : Nat → Nat → Option Nat) (c e : Nat) (nL : Nat) (xs : Nat → Int32) (D : px_H) (o0 : Option Value) (o1 : Option Value) (o2 : Option Value) : px_run (px_mk (kX12_two X)) 52 ([o0, o1, o2], [], (hp M J R c e nL xs D)) =
    px_run (px_mk (kX12_two X)) 57 ([none, none, none], [.int (1)], (hp M J R c e nL xs D)) := (px_run_eq _ _ _).trans rfl
set_option maxRecDepth 40000 in
theorem eX12_two_56 (X : px_X) (M : Nat → Nat → Int32) (J : Nat → Nat → Int64) (R : Nat → Nat → Option Nat) (c e : Nat) (nL : Nat) (xs : Nat → Int32) (D : px_H) (o0 : Option Value) (o1 : Option Value) (o2 : Option Value) : px_run (px_mk (kX12_two X)) 56 ([o0, o1, o2], [], (hp M J R c e nL xs D)) =
    px_run (px_mk (kX12_two X)) 57 ([none, none, none], [.int (0)], (hp M J R c e nL xs D)) := (px_run_eq _ _ _).trans rfl
set_option maxRecDepth 40000 in
theorem eX12_two_57 (X : px_X) (M : Nat → Nat → Int32) (J : Nat → Nat → Int64) (R : Nat → Nat → Option Nat) (c e : Nat) (nL : Nat) (xs : Nat → Int32) (D : px_H) (o0 : Option Value) (o1 : Option Value) (o2 : Option Value) (w0 : Int32) : px_run (px_mk (kX12_two X)) 57 ([o0, o1, o2], [.int (w0)], (hp M J R c e nL xs D)) =
    some (some (.int (w0)), (hp M J R c e nL xs D)) := (px_run_eq _ _ _).trans rfl
set_option maxRecDepth 40000 in
theorem eX12_named_0 (X : px_X) (M : Nat → Nat → Int32) (J : Nat → Nat → Int64) (R : Nat → Nat → Option Nat) (c e : Nat) (nL : Nat) (xs : Nat → Int32) (D : px_H) (v1 : Int32) (v2 : Int32) (v3 : Int32) : px_run (px_mk (kX12_named X)) 0 ([some (.ref 67), some (.int (v1)), some (.int (v2)), some (.int (v3))], [], (hp M J R c e nL xs D)) =
    cond (decide (v1 = 0))
    (px_run (px_mk (kX12_named X)) 36 ([some (.ref 67), some (.int (v1)), some (.int (v2)), some (.int (v3))], [], (hp M J R c e nL xs D)))
    (cond (decide (v1 = 1))
    (px_run (px_mk (kX12_named X)) 43 ([some (.ref 67), some (.int (v1)), some (.int (v2)), some (.int (v3))], [], (hp M J R c e nL xs D)))
    (cond (decide (v1 = 2))
    (px_run (px_mk (kX12_named X)) 50 ([some (.ref 67), some (.int (v1)), some (.int (v2)), some (.int (v3))], [], (hp M J R c e nL xs D)))
    (cond (decide (v1 = 3))
    (px_run (px_mk (kX12_named X)) 57 ([some (.ref 67), some (.int (v1)), some (.int (v2)), some (.int (v3))], [], (hp M J R c e nL xs D)))
    (cond (decide (v1 = 4))
    (px_run (px_mk (kX12_named X)) 67 ([some (.ref 67), some (.int (v1)), some (.int (v2)), some (.int (v3))], [], (hp M J R c e nL xs D)))
    (px_run (px_mk (kX12_named X)) 77 ([some (.ref 67), some (.int (v1)), some (.int (v2)), some (.int (v3))], [], (hp M J R c e nL xs D))))))) := (px_run_eq _ _ _).trans rfl
set_option maxRecDepth 40000 in
theorem eX12_named_77 (X : px_X) (M : Nat → Nat → Int32) (J : Nat → Nat → Int64) (R : Nat → Nat → Option Nat) (c e : Nat) (nL : Nat) (xs : Nat → Int32) (D : px_H) (o0 : Option Value) (o1 : Option Value) (o2 : Option Value) (v3 : Int32) : px_run (px_mk (kX12_named X)) 77 ([o0, o1, o2, some (.int (v3))], [], (hp M J R c e nL xs D)) =
    some (some (.int (v3)), (hp M J R c e nL xs D)) := (px_run_eq _ _ _).trans rfl
set_option maxRecDepth 40000 in
theorem eX12_named_67 (X : px_X) (M : Nat → Nat → Int32) (J : Nat → Nat → Int64) (R : Nat → Nat → Option Nat) (c e : Nat) (nL : Nat) (xs : Nat → Int32) (D : px_H) (o1 : Option Value) (v2 : Int32) (o3 : Option Value) : px_run (px_mk (kX12_named X)) 67 ([some (.ref 67), o1, some (.int (v2)), o3], [], (hp M J R c e nL xs D)) =
    cond (px_inb (v2) 20)
    (some (some (.int ((((M 78) (Int32.toNatClampNeg (v2))) / 10))), (hp M J R c e nL xs D))) none := (px_run_eq _ _ _).trans rfl
set_option maxRecDepth 40000 in
theorem eX12_named_57 (X : px_X) (M : Nat → Nat → Int32) (J : Nat → Nat → Int64) (R : Nat → Nat → Option Nat) (c e : Nat) (nL : Nat) (xs : Nat → Int32) (D : px_H) (o1 : Option Value) (v2 : Int32) (o3 : Option Value) : px_run (px_mk (kX12_named X)) 57 ([some (.ref 67), o1, some (.int (v2)), o3], [], (hp M J R c e nL xs D)) =
    cond (px_inb (v2) 20)
    (some (some (.int ((((M 78) (Int32.toNatClampNeg (v2))) - ((M 78) (Int32.toNatClampNeg (v2))) / 10 * 10))), (hp M J R c e nL xs D))) none := (px_run_eq _ _ _).trans rfl
set_option maxRecDepth 40000 in
theorem eX12_named_50 (X : px_X) (M : Nat → Nat → Int32) (J : Nat → Nat → Int64) (R : Nat → Nat → Option Nat) (c e : Nat) (nL : Nat) (xs : Nat → Int32) (D : px_H) (o1 : Option Value) (v2 : Int32) (o3 : Option Value) : px_run (px_mk (kX12_named X)) 50 ([some (.ref 67), o1, some (.int (v2)), o3], [], (hp M J R c e nL xs D)) =
    cond (px_inb (v2) 20)
    (some (some (.int (((M 79) (Int32.toNatClampNeg (v2))))), (hp M J R c e nL xs D))) none := (px_run_eq _ _ _).trans rfl
set_option maxRecDepth 40000 in
theorem eX12_named_43 (X : px_X) (M : Nat → Nat → Int32) (J : Nat → Nat → Int64) (R : Nat → Nat → Option Nat) (c e : Nat) (nL : Nat) (xs : Nat → Int32) (D : px_H) (o1 : Option Value) (v2 : Int32) (o3 : Option Value) : px_run (px_mk (kX12_named X)) 43 ([some (.ref 67), o1, some (.int (v2)), o3], [], (hp M J R c e nL xs D)) =
    cond (px_inb (v2) 20)
    (some (some (.int (((M 80) (Int32.toNatClampNeg (v2))))), (hp M J R c e nL xs D))) none := (px_run_eq _ _ _).trans rfl
set_option maxRecDepth 40000 in
theorem eX12_named_36 (X : px_X) (M : Nat → Nat → Int32) (J : Nat → Nat → Int64) (R : Nat → Nat → Option Nat) (c e : Nat) (nL : Nat) (xs : Nat → Int32) (D : px_H) (o1 : Option Value) (v2 : Int32) (o3 : Option Value) : px_run (px_mk (kX12_named X)) 36 ([some (.ref 67), o1, some (.int (v2)), o3], [], (hp M J R c e nL xs D)) =
    cond (px_inb (v2) 20)
    (some (some (.int (((M 77) (Int32.toNatClampNeg (v2))))), (hp M J R c e nL xs D))) none := (px_run_eq _ _ _).trans rfl
set_option maxRecDepth 40000 in
theorem eX12_worked_0 (X : px_X) (M : Nat → Nat → Int32) (J : Nat → Nat → Int64) (R : Nat → Nat → Option Nat) (c e : Nat) (nL : Nat) (xs : Nat → Int32) (D : px_H) (v1 : Int32) (v2 : Int32) (v3 : Int32) : px_run (px_mk (kX12_worked X)) 0 ([some (.ref 67), some (.int (v1)), some (.int (v2)), some (.int (v3)), none, none, none], [], (hp M J R c e nL xs D)) =
    cond (px_inb (v1) 16)
    (px_run (px_mk (kX12_worked X)) 11 ([some (.ref 67), some (.int (v1)), some (.int (v2)), some (.int (v3)), some (.int (0)), some (.int (((M 98) (Int32.toNatClampNeg (v1))))), none], [], (hp M J R c e nL xs D))) none := (px_run_eq _ _ _).trans rfl
set_option maxRecDepth 40000 in
theorem eX12_worked_11 (X : px_X) (M : Nat → Nat → Int32) (J : Nat → Nat → Int64) (R : Nat → Nat → Option Nat) (c e : Nat) (nL : Nat) (xs : Nat → Int32) (D : px_H) (v1 : Int32) (v2 : Int32) (v3 : Int32) (v4 : Int32) (v5 : Int32) (o6 : Option Value) : px_run (px_mk (kX12_worked X)) 11 ([some (.ref 67), some (.int (v1)), some (.int (v2)), some (.int (v3)), some (.int (v4)), some (.int (v5)), o6], [], (hp M J R c e nL xs D)) =
    cond (px_inb ((v1 + 1)) 16)
    (cond (decide (((M 98) (Int32.toNatClampNeg ((v1 + 1)))) ≤ v5))
    (px_run (px_mk (kX12_worked X)) 188 ([some (.ref 67), some (.int (v1)), some (.int (v2)), some (.int (v3)), some (.int (v4)), some (.int (v5)), none], [], (hp M J R c e nL xs D)))
    (cond (px_inb (v5) 320)
    (cond (decide (((M 96) (Int32.toNatClampNeg (v5))) = 0))
    (px_run (px_mk (kX12_worked X)) 44 ([some (.ref 67), some (.int (v1)), some (.int (v2)), some (.int (v3)), some (.int (v4)), some (.int (v5)), some (.int (((M 96) (Int32.toNatClampNeg (v5)))))], [], (hp M J R c e nL xs D)))
    (cond (decide (¬ ((M 96) (Int32.toNatClampNeg (v5))) = 1))
    (px_run (px_mk (kX12_worked X)) 85 ([some (.ref 67), some (.int (v1)), some (.int (v2)), some (.int (v3)), some (.int (v4)), some (.int (v5)), some (.int (((M 96) (Int32.toNatClampNeg (v5)))))], [], (hp M J R c e nL xs D)))
    (px_run (px_mk (kX12_worked X)) 44 ([some (.ref 67), some (.int (v1)), some (.int (v2)), some (.int (v3)), some (.int (v4)), some (.int (v5)), some (.int (((M 96) (Int32.toNatClampNeg (v5)))))], [], (hp M J R c e nL xs D))))) none)) none := (px_run_eq _ _ _).trans rfl
set_option maxRecDepth 40000 in
theorem eX12_worked_188 (X : px_X) (M : Nat → Nat → Int32) (J : Nat → Nat → Int64) (R : Nat → Nat → Option Nat) (c e : Nat) (nL : Nat) (xs : Nat → Int32) (D : px_H) (o1 : Option Value) (o2 : Option Value) (o3 : Option Value) (o4 : Option Value) (o5 : Option Value) (o6 : Option Value) : px_run (px_mk (kX12_worked X)) 188 ([some (.ref 67), o1, o2, o3, o4, o5, o6], [], (hp M J R c e nL xs D)) =
    cond (px_inb (0) 180)
    (some (some (.int (((M 107) (Int32.toNatClampNeg (0))))), (hp M J R c e nL xs D))) none := (px_run_eq _ _ _).trans rfl
set_option maxRecDepth 40000 in
theorem eX12_worked_44 (X : px_X) (M : Nat → Nat → Int32) (J : Nat → Nat → Int64) (R : Nat → Nat → Option Nat) (c e : Nat) (nL : Nat) (xs : Nat → Int32) (D : px_H) (v1 : Int32) (v2 : Int32) (v3 : Int32) (v4 : Int32) (v5 : Int32) (v6 : Int32) : px_run (px_mk (kX12_worked X)) 44 ([some (.ref 67), some (.int (v1)), some (.int (v2)), some (.int (v3)), some (.int (v4)), some (.int (v5)), some (.int (v6))], [], (hp M J R c e nL xs D)) =
    cond (decide (¬ v6 = 0))
    (px_run (px_mk (kX12_worked X)) 65 ([some (.ref 67), some (.int (v1)), some (.int (v2)), some (.int (v3)), some (.int (v4)), some (.int (v5)), some (.int (v6))], [.int (v4), .ref 107], (hp M J R c e nL xs D)))
    (cond (px_inb (v5) 320)
    (px_run (px_mk (kX12_worked X)) 78 ([some (.ref 67), some (.int (v1)), some (.int (v2)), some (.int (v3)), some (.int (v4)), some (.int (v5)), some (.int (v6))], [.int (((M 97) (Int32.toNatClampNeg (v5)))), .int (v4), .ref 107], (hp M J R c e nL xs D))) none) := (px_run_eq _ _ _).trans rfl
set_option maxRecDepth 40000 in
theorem eX12_worked_85 (X : px_X) (M : Nat → Nat → Int32) (J : Nat → Nat → Int64) (R : Nat → Nat → Option Nat) (c e : Nat) (nL : Nat) (xs : Nat → Int32) (D : px_H) (v1 : Int32) (v2 : Int32) (v3 : Int32) (v4 : Int32) (v5 : Int32) (v6 : Int32) : px_run (px_mk (kX12_worked X)) 85 ([some (.ref 67), some (.int (v1)), some (.int (v2)), some (.int (v3)), some (.int (v4)), some (.int (v5)), some (.int (v6))], [], (hp M J R c e nL xs D)) =
    cond (decide (¬ v6 = 4))
    (px_run (px_mk (kX12_worked X)) 120 ([some (.ref 67), some (.int (v1)), some (.int (v2)), some (.int (v3)), some (.int (v4)), some (.int (v5)), some (.int (v6))], [], (hp M J R c e nL xs D)))
    (cond (px_inb ((v4 - 1)) 180)
    (cond (decide (¬ ((M 107) (Int32.toNatClampNeg ((v4 - 1)))) = 0))
    (px_run (px_mk (kX12_worked X)) 115 ([some (.ref 67), some (.int (v1)), some (.int (v2)), some (.int (v3)), some (.int (v4)), some (.int (v5)), some (.int (v6))], [.int ((v4 - 1)), .ref 107], (hp M J R c e nL xs D)))
    (px_run (px_mk (kX12_worked X)) 116 ([some (.ref 67), some (.int (v1)), some (.int (v2)), some (.int (v3)), some (.int (v4)), some (.int (v5)), some (.int (v6))], [.int (1), .int ((v4 - 1)), .ref 107], (hp M J R c e nL xs D)))) none) := (px_run_eq _ _ _).trans rfl
set_option maxRecDepth 40000 in
theorem eX12_worked_65_8 (X : px_X) (st : px_S) : px_p (kX12_worked X) 65 8 st = px_run (px_mk (kX12_worked X)) 78 st := rfl
set_option maxRecDepth 40000 in
theorem eX12_worked_65 (X : px_X) (M : Nat → Nat → Int32) (J : Nat → Nat → Int64) (R : Nat → Nat → Option Nat) (c e : Nat) (nL : Nat) (xs : Nat → Int32) (D : px_H) (v1 : Int32) (v2 : Int32) (v3 : Int32) (v4 : Int32) (v5 : Int32) (o6 : Option Value) (w1 : Int32) : px_run (px_mk (kX12_worked X)) 65 ([some (.ref 67), some (.int (v1)), some (.int (v2)), some (.int (v3)), some (.int (v4)), some (.int (v5)), o6], [.int (w1), .ref 107], (hp M J R c e nL xs D)) =
    cond (px_inb (v5) 320)
    (px_bd (X 229 [.ref 67, .int (((M 97) (Int32.toNatClampNeg (v5)))), .int (v2), .int (v3)] (hp M J R c e nL xs D))
    (fun v G1 => px_p (kX12_worked X) 65 8 ([some (.ref 67), some (.int (v1)), some (.int (v2)), some (.int (v3)), some (.int (v4)), some (.int (v5)), none], px_psh v [.int (w1), .ref 107], G1))) none := (px_run_eq _ _ _).trans rfl
set_option maxRecDepth 40000 in
theorem eX12_worked_78 (X : px_X) (M : Nat → Nat → Int32) (J : Nat → Nat → Int64) (R : Nat → Nat → Option Nat) (c e : Nat) (nL : Nat) (xs : Nat → Int32) (D : px_H) (v1 : Int32) (v2 : Int32) (v3 : Int32) (v4 : Int32) (v5 : Int32) (o6 : Option Value) (w1 : Int32) (w2 : Int32) : px_run (px_mk (kX12_worked X)) 78 ([some (.ref 67), some (.int (v1)), some (.int (v2)), some (.int (v3)), some (.int (v4)), some (.int (v5)), o6], [.int (w2), .int (w1), .ref 107], (hp M J R c e nL xs D)) =
    cond (px_inb (w1) 180)
    (px_run (px_mk (kX12_worked X)) 182 ([some (.ref 67), some (.int (v1)), some (.int (v2)), some (.int (v3)), some (.int ((v4 + 1))), some (.int (v5)), none], [], (hp (px_uR M 107 (upd (M 107) (Int32.toNatClampNeg (w1)) (w2))) J R c e nL xs D))) none := (px_run_eq _ _ _).trans rfl
set_option maxRecDepth 40000 in
theorem eX12_worked_120 (X : px_X) (M : Nat → Nat → Int32) (J : Nat → Nat → Int64) (R : Nat → Nat → Option Nat) (c e : Nat) (nL : Nat) (xs : Nat → Int32) (D : px_H) (v1 : Int32) (v2 : Int32) (v3 : Int32) (v4 : Int32) (v5 : Int32) (v6 : Int32) : px_run (px_mk (kX12_worked X)) 120 ([some (.ref 67), some (.int (v1)), some (.int (v2)), some (.int (v3)), some (.int (v4)), some (.int (v5)), some (.int (v6))], [], (hp M J R c e nL xs D)) =
    cond (decide (¬ v6 = 10))
    (px_run (px_mk (kX12_worked X)) 149 ([some (.ref 67), some (.int (v1)), some (.int (v2)), some (.int (v3)), some (.int (v4)), some (.int (v5)), some (.int (v6))], [], (hp M J R c e nL xs D)))
    (cond (px_inb ((v4 - 1)) 180)
    (cond (px_inb ((v4 - 1)) 180)
    (px_run (px_mk (kX12_worked X)) 182 ([some (.ref 67), some (.int (v1)), some (.int (v2)), some (.int (v3)), some (.int (v4)), some (.int (v5)), some (.int (v6))], [], (hp (px_uR M 107 (upd (M 107) (Int32.toNatClampNeg ((v4 - 1))) ((-((M 107) (Int32.toNatClampNeg ((v4 - 1)))))))) J R c e nL xs D))) none) none) := (px_run_eq _ _ _).trans rfl
set_option maxRecDepth 40000 in
theorem eX12_worked_115 (X : px_X) (M : Nat → Nat → Int32) (J : Nat → Nat → Int64) (R : Nat → Nat → Option Nat) (c e : Nat) (nL : Nat) (xs : Nat → Int32) (D : px_H) (v1 : Int32) (v2 : Int32) (v3 : Int32) (v4 : Int32) (v5 : Int32) (o6 : Option Value) (w1 : Int32) : px_run (px_mk (kX12_worked X)) 115 ([some (.ref 67), some (.int (v1)), some (.int (v2)), some (.int (v3)), some (.int (v4)), some (.int (v5)), o6], [.int (w1), .ref 107], (hp M J R c e nL xs D)) =
    px_run (px_mk (kX12_worked X)) 116 ([some (.ref 67), some (.int (v1)), some (.int (v2)), some (.int (v3)), some (.int (v4)), some (.int (v5)), none], [.int (0), .int (w1), .ref 107], (hp M J R c e nL xs D)) := (px_run_eq _ _ _).trans rfl
set_option maxRecDepth 40000 in
theorem eX12_worked_116 (X : px_X) (M : Nat → Nat → Int32) (J : Nat → Nat → Int64) (R : Nat → Nat → Option Nat) (c e : Nat) (nL : Nat) (xs : Nat → Int32) (D : px_H) (v1 : Int32) (v2 : Int32) (v3 : Int32) (v4 : Int32) (v5 : Int32) (o6 : Option Value) (w1 : Int32) (w2 : Int32) : px_run (px_mk (kX12_worked X)) 116 ([some (.ref 67), some (.int (v1)), some (.int (v2)), some (.int (v3)), some (.int (v4)), some (.int (v5)), o6], [.int (w2), .int (w1), .ref 107], (hp M J R c e nL xs D)) =
    cond (px_inb (w1) 180)
    (px_run (px_mk (kX12_worked X)) 182 ([some (.ref 67), some (.int (v1)), some (.int (v2)), some (.int (v3)), some (.int (v4)), some (.int (v5)), none], [], (hp (px_uR M 107 (upd (M 107) (Int32.toNatClampNeg (w1)) (w2))) J R c e nL xs D))) none := (px_run_eq _ _ _).trans rfl
set_option maxRecDepth 40000 in
theorem eX12_worked_182 (X : px_X) (M : Nat → Nat → Int32) (J : Nat → Nat → Int64) (R : Nat → Nat → Option Nat) (c e : Nat) (nL : Nat) (xs : Nat → Int32) (D : px_H) (v1 : Int32) (v2 : Int32) (v3 : Int32) (v4 : Int32) (v5 : Int32) (o6 : Option Value) : px_run (px_mk (kX12_worked X)) 182 ([some (.ref 67), some (.int (v1)), some (.int (v2)), some (.int (v3)), some (.int (v4)), some (.int (v5)), o6], [], (hp M J R c e nL xs D)) =
    px_run (px_mk (kX12_worked X)) 11 ([some (.ref 67), some (.int (v1)), some (.int (v2)), some (.int (v3)), some (.int (v4)), some (.int ((v5 + 1))), none], [], (hp M J R c e nL xs D)) := (px_run_eq _ _ _).trans rfl
set_option maxRecDepth 40000 in
theorem eX12_worked_t2 (k : px_S → Option px_R) (j : px_J) (G : px_H) (v1 v2 v3 v4 v5 v6 : Int32) : (px_iinc 4 (-1)).1 k j ([some (.ref 67), some (.int v1), some (.int v2), some (.int v3), some (.int (v4)), some (.int v5), some (.int v6)], [], G) = k ([some (.ref 67), some (.int v1), some (.int v2), some (.int v3), some (.int (v4 + (-1))), some (.int v5), some (.int v6)], [], G) := rfl
set_option maxRecDepth 40000 in
theorem eX12_worked_ii {is : List px_I} {fall : Nat} {j : px_J} {G : px_H} {v1 v2 v3 v4 v5 v6 : Int32} : px_blk (px_iinc 4 (-1) :: is) fall j ([some (.ref 67), some (.int v1), some (.int v2), some (.int v3), some (.int (v4)), some (.int v5), some (.int v6)], [], G) = px_blk is fall j ([some (.ref 67), some (.int v1), some (.int v2), some (.int v3), some (.int (v4 + (-1))), some (.int v5), some (.int v6)], [], G) := eX12_worked_t2 (px_blk is fall j) j G v1 v2 v3 v4 v5 v6
set_option maxRecDepth 40000 in
theorem eX12_worked_149q (X : px_X) (M : Nat → Nat → Int32) (J : Nat → Nat → Int64) (R : Nat → Nat → Option Nat) (c e : Nat) (nL : Nat) (xs : Nat → Int32) (D : px_H) (v1 : Int32) (v2 : Int32) (v3 : Int32) (v4 : Int32) (v5 : Int32) (v6 : Int32) : px_run (px_mk (kX12_worked X)) 149 ([some (.ref 67), some (.int (v1)), some (.int (v2)), some (.int (v3)), some (.int (v4)), some (.int (v5)), some (.int (v6))], [], (hp M J R c e nL xs D)) = px_p (kX12_worked X) 149 0 ([some (.ref 67), some (.int v1), some (.int v2), some (.int v3), some (.int (v4)), some (.int v5), some (.int v6)], [], (hp M J R c e nL xs D)) := (px_run_eq _ _ _).trans rfl
set_option maxRecDepth 40000 in
theorem eX12_worked_149 (X : px_X) (M : Nat → Nat → Int32) (J : Nat → Nat → Int64) (R : Nat → Nat → Option Nat) (c e : Nat) (nL : Nat) (xs : Nat → Int32) (D : px_H) (v1 : Int32) (v2 : Int32) (v3 : Int32) (v4 : Int32) (v5 : Int32) (v6 : Int32) : px_run (px_mk (kX12_worked X)) 149 ([some (.ref 67), some (.int (v1)), some (.int (v2)), some (.int (v3)), some (.int (v4)), some (.int (v5)), some (.int (v6))], [], (hp M J R c e nL xs D)) =
    px_p (kX12_worked X) 149 1 ([some (.ref 67), some (.int (v1)), some (.int (v2)), some (.int (v3)), some (.int ((v4 + (-1)))), some (.int (v5)), some (.int (v6))], [], (hp M J R c e nL xs D)) := (eX12_worked_149q X M J R c e nL xs D v1 v2 v3 v4 v5 v6).trans eX12_worked_ii
set_option maxRecDepth 40000 in
theorem eX12_worked_149_1 (X : px_X) (M : Nat → Nat → Int32) (J : Nat → Nat → Int64) (R : Nat → Nat → Option Nat) (c e : Nat) (nL : Nat) (xs : Nat → Int32) (D : px_H) (v1 : Int32) (v2 : Int32) (v3 : Int32) (v4 : Int32) (v5 : Int32) (v6 : Int32) : px_p (kX12_worked X) 149 1 ([some (.ref 67), some (.int (v1)), some (.int (v2)), some (.int (v3)), some (.int (v4)), some (.int (v5)), some (.int (v6))], [], (hp M J R c e nL xs D)) =
    cond (px_inb ((v4 - 1)) 180)
    (cond (px_inb (v4) 180)
    (px_bd (X 228 [.int (v6), .int (((M 107) (Int32.toNatClampNeg ((v4 - 1))))), .int (((M 107) (Int32.toNatClampNeg (v4))))] (hp M J R c e nL xs D))
    (fun v G1 => px_p (kX12_worked X) 149 18 ([some (.ref 67), some (.int (v1)), some (.int (v2)), some (.int (v3)), some (.int (v4)), some (.int (v5)), some (.int (v6))], px_psh v [.int ((v4 - 1)), .ref 107], G1))) none) none := rfl
set_option maxRecDepth 40000 in
theorem eX12_worked_149_18 (X : px_X) (M : Nat → Nat → Int32) (J : Nat → Nat → Int64) (R : Nat → Nat → Option Nat) (c e : Nat) (nL : Nat) (xs : Nat → Int32) (D : px_H) (v1 : Int32) (v2 : Int32) (v3 : Int32) (v4 : Int32) (v5 : Int32) (v6 : Int32) (w1 : Int32) (w2 : Int32) : px_p (kX12_worked X) 149 18 ([some (.ref 67), some (.int (v1)), some (.int (v2)), some (.int (v3)), some (.int (v4)), some (.int (v5)), some (.int (v6))], [.int (w2), .int (w1), .ref 107], (hp M J R c e nL xs D)) =
    cond (px_inb (w1) 180)
    (px_run (px_mk (kX12_worked X)) 182 ([some (.ref 67), some (.int (v1)), some (.int (v2)), some (.int (v3)), some (.int (v4)), some (.int (v5)), some (.int (v6))], [], (hp (px_uR M 107 (upd (M 107) (Int32.toNatClampNeg (w1)) (w2))) J R c e nL xs D))) none := rfl
