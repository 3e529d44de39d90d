/-! PART 10b: the words of the tables, by their places (written by wip/whole/gen.py) -/
theorem px_t1 {w : Cond} {i : Nat} (h : tables_1_1[i]? = some w) : w ∈ lw_tbl := List.mem_append_right _ (List.mem_append_left _ (List.mem_of_getElem? h))
theorem px_t2 {w : Cond} {i : Nat} (h : tables_1_2[i]? = some w) : w ∈ lw_tbl := List.mem_append_right _ (List.mem_append_right _ (List.mem_append_left _ (List.mem_of_getElem? h)))
theorem px_t3 {w : Cond} {i : Nat} (h : tables_1_3[i]? = some w) : w ∈ lw_tbl := List.mem_append_right _ (List.mem_append_right _ (List.mem_append_right _ (List.mem_append_left _ (List.mem_of_getElem? h))))
theorem px_t4 {w : Cond} {i : Nat} (h : tables_1_4[i]? = some w) : w ∈ lw_tbl := List.mem_append_right _ (List.mem_append_right _ (List.mem_append_right _ (List.mem_append_right _ (List.mem_append_left _ (List.mem_of_getElem? h)))))
theorem px_t5 {w : Cond} {i : Nat} (h : tables_1_5[i]? = some w) : w ∈ lw_tbl := List.mem_append_right _ (List.mem_append_right _ (List.mem_append_right _ (List.mem_append_right _ (List.mem_append_right _ (List.mem_append_left _ (List.mem_of_getElem? h))))))
theorem px_t6 {w : Cond} {i : Nat} (h : tables_1_6[i]? = some w) : w ∈ lw_tbl := List.mem_append_right _ (List.mem_append_right _ (List.mem_append_right _ (List.mem_append_right _ (List.mem_append_right _ (List.mem_append_right _ (List.mem_append_left _ (List.mem_of_getElem? h)))))))
theorem px_t7 {w : Cond} {i : Nat} (h : tables_1_7[i]? = some w) : w ∈ lw_tbl := List.mem_append_right _ (List.mem_append_right _ (List.mem_append_right _ (List.mem_append_right _ (List.mem_append_right _ (List.mem_append_right _ (List.mem_append_right _ (List.mem_of_getElem? h)))))))
theorem px_p1 {q : MethodName × Nat} {i : Nat} (h : lw_privs_1[i]? = some q) : q ∈ lw_privs := (List.mem_append_left _ (List.mem_of_getElem? h))
theorem px_p2 {q : MethodName × Nat} {i : Nat} (h : lw_privs_2[i]? = some q) : q ∈ lw_privs := (List.mem_append_right _ (List.mem_append_left _ (List.mem_of_getElem? h)))
theorem px_p3 {q : MethodName × Nat} {i : Nat} (h : lw_privs_3[i]? = some q) : q ∈ lw_privs := (List.mem_append_right _ (List.mem_append_right _ (List.mem_append_left _ (List.mem_of_getElem? h))))
theorem px_p4 {q : MethodName × Nat} {i : Nat} (h : lw_privs_4[i]? = some q) : q ∈ lw_privs := (List.mem_append_right _ (List.mem_append_right _ (List.mem_append_right _ (List.mem_append_left _ (List.mem_of_getElem? h)))))
theorem px_p5 {q : MethodName × Nat} {i : Nat} (h : lw_privs_5[i]? = some q) : q ∈ lw_privs := (List.mem_append_right _ (List.mem_append_right _ (List.mem_append_right _ (List.mem_append_right _ (List.mem_append_left _ (List.mem_of_getElem? h))))))
theorem px_p6 {q : MethodName × Nat} {i : Nat} (h : lw_privs_6[i]? = some q) : q ∈ lw_privs := (List.mem_append_right _ (List.mem_append_right _ (List.mem_append_right _ (List.mem_append_right _ (List.mem_append_right _ (List.mem_of_getElem? h))))))
theorem px_sel {y : MethodName} {n : Nat} (h : (y, n) ∈ lw_privs) : Cond.selects y.cls y y ∈ lw_tbl := List.mem_append_left _ (List.mem_map.mpr ⟨(y, n), h, rfl⟩)
theorem px_w3 {a b c : Cond} (ha : a ∈ px_good) (hb : b ∈ px_good) (hc : c ∈ px_good) : ∀ w ∈ ([a, b, c] : List Cond), w ∈ px_good := List.forall_mem_cons.mpr ⟨ha, List.forall_mem_cons.mpr ⟨hb, List.forall_mem_cons.mpr ⟨hc, fun _ h => absurd h List.not_mem_nil⟩⟩⟩
theorem px_w4 {a b c d : Cond} (ha : a ∈ px_good) (hb : b ∈ px_good) (hc : c ∈ px_good) (hd : d ∈ px_good) : ∀ w ∈ ([a, b, c, d] : List Cond), w ∈ px_good := List.forall_mem_cons.mpr ⟨ha, px_w3 hb hc hd⟩
theorem px_dflt {ty : Nat → FieldType} {fs : List Value} {N : Nat} (h : ((List.range N).all fun j => decide (defaultValue (ty j) = vp_V fs j)) = true) : ∀ j, j < N → defaultValue (ty j) = vp_V fs j := fun j hj => of_decide_eq_true (List.all_eq_true.mp h j (List.mem_range.mpr hj))
theorem wd_0 : Cond.methodLink "WreckField$Dive" 1 ⟨"java/lang/Object", "<init>", "()V"⟩ ∈ px_good := px_mem_good (px_t3 (i := 239) rfl) rfl
theorem wd_1 : Cond.instanceMethod ⟨"java/lang/Object", "<init>", "()V"⟩ ∈ px_good := px_mem_good (px_t1 (i := 25) rfl) rfl
theorem wd_2 : Cond.code Lib.objectInit ⟨#[0xb1]⟩ 1 none ∈ px_good := px_mem_good (px_t1 (i := 26) rfl) rfl
theorem wd_3 : Cond.fieldLink "WreckField$Dive" 7 "WreckField$Dive" "a" "I" ∈ px_good := px_mem_good (px_t4 (i := 0) rfl) rfl
theorem wd_4 : Cond.fieldLink "WreckField$Dive" 13 "WreckField$Dive" "b" "I" ∈ px_good := px_mem_good (px_t4 (i := 1) rfl) rfl
theorem wd_5 : Cond.fieldLink "WreckField$Dive" 16 "WreckField$Dive" "start" "I" ∈ px_good := px_mem_good (px_t4 (i := 2) rfl) rfl
theorem wd_6 : Cond.fieldLink "WreckField$Dive" 19 "WreckField$Dive" "depth" "I" ∈ px_good := px_mem_good (px_t4 (i := 4) rfl) rfl
theorem wd_7 : Cond.fieldLink "WreckField$Dive" 22 "WreckField$Dive" "minutes" "I" ∈ px_good := px_mem_good (px_t4 (i := 6) rfl) rfl
theorem wd_8 : Cond.code yX0_end cX0_end 1 (some .int) ∈ px_good := px_mem_good (px_t3 (i := 218) rfl) rfl
theorem wd_9 : Cond.methodLink "WreckField$Dive" 25 ⟨"WreckField$Dive", "end", "()I"⟩ ∈ px_good := px_mem_good (px_t3 (i := 215) rfl) rfl
theorem wd_10 : Cond.instanceMethod ⟨"WreckField$Dive", "end", "()I"⟩ ∈ px_good := px_mem_good (px_t3 (i := 216) rfl) rfl
theorem wd_11 : Cond.selects "WreckField$Dive" ⟨"WreckField$Dive", "end", "()I"⟩ ⟨"WreckField$Dive", "end", "()I"⟩ ∈ px_good := px_mem_good (px_t3 (i := 217) rfl) rfl
theorem wd_12 : Cond.initialized "WreckField$Dive" ∈ px_good := px_mem_good (px_t1 (i := 14) rfl) rfl
theorem wd_13 : Cond.methodLink "WreckField$DiveLog" 3 ⟨"java/lang/Object", "<init>", "()V"⟩ ∈ px_good := px_mem_good (px_t1 (i := 124) rfl) rfl
theorem wd_14 : Cond.fieldLink "WreckField$DiveLog" 9 "WreckField$DiveLog" "divers" "I" ∈ px_good := px_mem_good (px_t1 (i := 127) rfl) rfl
theorem wd_15 : Cond.fieldLink "WreckField$DiveLog" 15 "WreckField$DiveLog" "rows" "I" ∈ px_good := px_mem_good (px_t1 (i := 129) rfl) rfl
theorem wd_16 : Cond.fieldLink "WreckField$DiveLog" 18 "WreckField$DiveLog" "diveCount" "I" ∈ px_good := px_mem_good (px_t1 (i := 131) rfl) rfl
theorem wd_17 : Cond.arrayClass .int ∈ px_good := px_mem_good (px_t1 (i := 90) rfl) rfl
theorem wd_18 : Cond.fieldLink "WreckField$DiveLog" 21 "WreckField$DiveLog" "rowDepth" "[I" ∈ px_good := px_mem_good (px_t1 (i := 133) rfl) rfl
theorem wd_19 : Cond.fieldLink "WreckField$DiveLog" 25 "WreckField$DiveLog" "rowMinutes" "[I" ∈ px_good := px_mem_good (px_t1 (i := 134) rfl) rfl
theorem wd_20 : Cond.fieldLink "WreckField$DiveLog" 28 "WreckField$DiveLog" "rowRest" "[I" ∈ px_good := px_mem_good (px_t1 (i := 135) rfl) rfl
theorem wd_21 : Cond.classLink "WreckField$DiveLog" 31 "WreckField$Dive" ∈ px_good := px_mem_good (px_t1 (i := 125) rfl) rfl
theorem wd_22 : Cond.fieldLink "WreckField$DiveLog" 33 "WreckField$DiveLog" "dives" "[LWreckField$Dive;" ∈ px_good := px_mem_good (px_t1 (i := 136) rfl) rfl
theorem wd_23 : Cond.code yX1_firstRowFrom cX1_firstRowFrom 3 (some .int) ∈ px_good := px_mem_good (px_t3 (i := 173) rfl) rfl
theorem wd_24 : Cond.methodLink "WreckField$DiveLog" 37 ⟨"WreckField$DiveLog", "firstRowFrom", "(I)I"⟩ ∈ px_good := px_mem_good (px_t3 (i := 170) rfl) rfl
theorem wd_25 : Cond.instanceMethod ⟨"WreckField$DiveLog", "firstRowFrom", "(I)I"⟩ ∈ px_good := px_mem_good (px_t3 (i := 172) rfl) rfl
theorem wd_26 : Cond.selects "WreckField$DiveLog" ⟨"WreckField$DiveLog", "firstRowFrom", "(I)I"⟩ ⟨"WreckField$DiveLog", "firstRowFrom", "(I)I"⟩ ∈ px_good := px_mem_good (px_sel (y := ⟨"WreckField$DiveLog", "firstRowFrom", "(I)I"⟩) (n := 7) (px_p1 (i := 14) rfl)) rfl
theorem wd_27 : Cond.initialized "WreckField$DiveLog" ∈ px_good := px_mem_good (px_t1 (i := 4) rfl) rfl
theorem wd_28 : Cond.code yX1_openRow cX1_openRow 3 none ∈ px_good := px_mem_good (px_t3 (i := 177) rfl) rfl
theorem wd_29 : Cond.methodLink "WreckField$DiveLog" 41 ⟨"WreckField$DiveLog", "openRow", "(I)V"⟩ ∈ px_good := px_mem_good (px_t3 (i := 174) rfl) rfl
theorem wd_30 : Cond.instanceMethod ⟨"WreckField$DiveLog", "openRow", "(I)V"⟩ ∈ px_good := px_mem_good (px_t3 (i := 176) rfl) rfl
theorem wd_31 : Cond.selects "WreckField$DiveLog" ⟨"WreckField$DiveLog", "openRow", "(I)V"⟩ ⟨"WreckField$DiveLog", "openRow", "(I)V"⟩ ∈ px_good := px_mem_good (px_sel (y := ⟨"WreckField$DiveLog", "openRow", "(I)V"⟩) (n := 7) (px_p1 (i := 15) rfl)) rfl
theorem wd_32 : Cond.code yX1_hasDiver cX1_hasDiver 2 (some .boolean) ∈ px_good := px_mem_good (px_t3 (i := 189) rfl) rfl
theorem wd_33 : Cond.methodLink "WreckField$DiveLog" 45 ⟨"WreckField$DiveLog", "hasDiver", "(I)Z"⟩ ∈ px_good := px_mem_good (px_t3 (i := 186) rfl) rfl
theorem wd_34 : Cond.instanceMethod ⟨"WreckField$DiveLog", "hasDiver", "(I)Z"⟩ ∈ px_good := px_mem_good (px_t3 (i := 187) rfl) rfl
theorem wd_35 : Cond.selects "WreckField$DiveLog" ⟨"WreckField$DiveLog", "hasDiver", "(I)Z"⟩ ⟨"WreckField$DiveLog", "hasDiver", "(I)Z"⟩ ∈ px_good := px_mem_good (px_t3 (i := 188) rfl) rfl
theorem wd_36 : Cond.constant "WreckField$DiveLog" 49 1440000 ∈ px_good := px_mem_good (px_t3 (i := 190) rfl) rfl
theorem wd_37 : Cond.code yX1_tableRefusal cX1_tableRefusal 4 (some .int) ∈ px_good := px_mem_good (px_t3 (i := 198) rfl) rfl
theorem wd_38 : Cond.methodLink "WreckField$DiveLog" 50 ⟨"WreckField$DiveLog", "tableRefusal", "(II)I"⟩ ∈ px_good := px_mem_good (px_t3 (i := 195) rfl) rfl
theorem wd_39 : Cond.instanceMethod ⟨"WreckField$DiveLog", "tableRefusal", "(II)I"⟩ ∈ px_good := px_mem_good (px_t3 (i := 197) rfl) rfl
theorem wd_40 : Cond.selects "WreckField$DiveLog" ⟨"WreckField$DiveLog", "tableRefusal", "(II)I"⟩ ⟨"WreckField$DiveLog", "tableRefusal", "(II)I"⟩ ∈ px_good := px_mem_good (px_sel (y := ⟨"WreckField$DiveLog", "tableRefusal", "(II)I"⟩) (n := 7) (px_p2 (i := 0) rfl)) rfl
theorem wd_41 : Cond.code yX1_restAfter cX1_restAfter 3 (some .int) ∈ px_good := px_mem_good (px_t3 (i := 202) rfl) rfl
theorem wd_42 : Cond.methodLink "WreckField$DiveLog" 54 ⟨"WreckField$DiveLog", "restAfter", "(I)I"⟩ ∈ px_good := px_mem_good (px_t3 (i := 199) rfl) rfl
theorem wd_43 : Cond.instanceMethod ⟨"WreckField$DiveLog", "restAfter", "(I)I"⟩ ∈ px_good := px_mem_good (px_t3 (i := 201) rfl) rfl
theorem wd_44 : Cond.selects "WreckField$DiveLog" ⟨"WreckField$DiveLog", "restAfter", "(I)I"⟩ ⟨"WreckField$DiveLog", "restAfter", "(I)I"⟩ ∈ px_good := px_mem_good (px_sel (y := ⟨"WreckField$DiveLog", "restAfter", "(I)I"⟩) (n := 7) (px_p2 (i := 1) rfl)) rfl
theorem wd_45 : Cond.code yX1_timeRefusal cX1_timeRefusal 10 (some .int) ∈ px_good := px_mem_good (px_t3 (i := 206) rfl) rfl
theorem wd_46 : Cond.methodLink "WreckField$DiveLog" 57 ⟨"WreckField$DiveLog", "timeRefusal", "(IIIII)I"⟩ ∈ px_good := px_mem_good (px_t3 (i := 203) rfl) rfl
theorem wd_47 : Cond.instanceMethod ⟨"WreckField$DiveLog", "timeRefusal", "(IIIII)I"⟩ ∈ px_good := px_mem_good (px_t3 (i := 205) rfl) rfl
theorem wd_48 : Cond.selects "WreckField$DiveLog" ⟨"WreckField$DiveLog", "timeRefusal", "(IIIII)I"⟩ ⟨"WreckField$DiveLog", "timeRefusal", "(IIIII)I"⟩ ∈ px_good := px_mem_good (px_sel (y := ⟨"WreckField$DiveLog", "timeRefusal", "(IIIII)I"⟩) (n := 7) (px_p2 (i := 2) rfl)) rfl
theorem wd_49 : Cond.code yX0_has cX0_has 2 (some .boolean) ∈ px_good := px_mem_good (px_t3 (i := 210) rfl) rfl
theorem wd_50 : Cond.methodLink "WreckField$DiveLog" 61 ⟨"WreckField$Dive", "has", "(I)Z"⟩ ∈ px_good := px_mem_good (px_t3 (i := 207) rfl) rfl
theorem wd_51 : Cond.instanceMethod ⟨"WreckField$Dive", "has", "(I)Z"⟩ ∈ px_good := px_mem_good (px_t3 (i := 208) rfl) rfl
theorem wd_52 : Cond.selects "WreckField$Dive" ⟨"WreckField$Dive", "has", "(I)Z"⟩ ⟨"WreckField$Dive", "has", "(I)Z"⟩ ∈ px_good := px_mem_good (px_t3 (i := 209) rfl) rfl
theorem wd_53 : Cond.code yX0_meets cX0_meets 3 (some .boolean) ∈ px_good := px_mem_good (px_t3 (i := 214) rfl) rfl
theorem wd_54 : Cond.methodLink "WreckField$DiveLog" 64 ⟨"WreckField$Dive", "meets", "(II)Z"⟩ ∈ px_good := px_mem_good (px_t3 (i := 211) rfl) rfl
theorem wd_55 : Cond.instanceMethod ⟨"WreckField$Dive", "meets", "(II)Z"⟩ ∈ px_good := px_mem_good (px_t3 (i := 212) rfl) rfl
theorem wd_56 : Cond.selects "WreckField$Dive" ⟨"WreckField$Dive", "meets", "(II)Z"⟩ ⟨"WreckField$Dive", "meets", "(II)Z"⟩ ∈ px_good := px_mem_good (px_t3 (i := 213) rfl) rfl
theorem wd_57 : Cond.code yX1_isTooNear cX1_isTooNear 5 (some .boolean) ∈ px_good := px_mem_good (px_t3 (i := 222) rfl) rfl
theorem wd_58 : Cond.methodLink "WreckField$DiveLog" 68 ⟨"WreckField$DiveLog", "isTooNear", "(LWreckField$Dive;III)Z"⟩ ∈ px_good := px_mem_good (px_t3 (i := 219) rfl) rfl
theorem wd_59 : Cond.instanceMethod ⟨"WreckField$DiveLog", "isTooNear", "(LWreckField$Dive;III)Z"⟩ ∈ px_good := px_mem_good (px_t3 (i := 221) rfl) rfl
theorem wd_60 : Cond.selects "WreckField$DiveLog" ⟨"WreckField$DiveLog", "isTooNear", "(LWreckField$Dive;III)Z"⟩ ⟨"WreckField$DiveLog", "isTooNear", "(LWreckField$Dive;III)Z"⟩ ∈ px_good := px_mem_good (px_sel (y := ⟨"WreckField$DiveLog", "isTooNear", "(LWreckField$Dive;III)Z"⟩) (n := 7) (px_p2 (i := 3) rfl)) rfl
theorem wd_61 : Cond.code yX1_minutesOn cX1_minutesOn 6 (some .int) ∈ px_good := px_mem_good (px_t3 (i := 227) rfl) rfl
theorem wd_62 : Cond.methodLink "WreckField$DiveLog" 72 ⟨"WreckField$DiveLog", "minutesOn", "(II)I"⟩ ∈ px_good := px_mem_good (px_t3 (i := 224) rfl) rfl
theorem wd_63 : Cond.instanceMethod ⟨"WreckField$DiveLog", "minutesOn", "(II)I"⟩ ∈ px_good := px_mem_good (px_t3 (i := 225) rfl) rfl
theorem wd_64 : Cond.selects "WreckField$DiveLog" ⟨"WreckField$DiveLog", "minutesOn", "(II)I"⟩ ⟨"WreckField$DiveLog", "minutesOn", "(II)I"⟩ ∈ px_good := px_mem_good (px_t3 (i := 226) rfl) rfl
theorem wd_65 : Cond.methodLink "WreckField$DiveLog" 75 ⟨"java/lang/Math", "max", "(II)I"⟩ ∈ px_good := px_mem_good (px_t3 (i := 228) rfl) rfl
theorem wd_66 : Cond.static ⟨"java/lang/Math", "max", "(II)I"⟩ ∈ px_good := px_mem_good (px_t3 (i := 229) rfl) rfl
theorem wd_67 : Cond.initialized "java/lang/Math" ∈ px_good := px_mem_good (px_t1 (i := 12) rfl) rfl
theorem wd_68 : Cond.code Lib.Math.max.name Lib.Math.max.code 2 (some .int) ∈ px_good := px_mem_good (px_t3 (i := 230) rfl) rfl
theorem wd_69 : Cond.methodLink "WreckField$DiveLog" 80 ⟨"WreckField$Dive", "end", "()I"⟩ ∈ px_good := px_mem_good (px_t3 (i := 223) rfl) rfl
theorem wd_70 : Cond.fieldLink "WreckField$DiveLog" 84 "WreckField$Dive" "depth" "I" ∈ px_good := px_mem_good (px_t4 (i := 5) rfl) rfl
theorem wd_71 : Cond.fieldLink "WreckField$DiveLog" 87 "WreckField$Dive" "start" "I" ∈ px_good := px_mem_good (px_t4 (i := 3) rfl) rfl
theorem wd_72 : Cond.fieldLink "WreckField$DiveLog" 90 "WreckField$Dive" "minutes" "I" ∈ px_good := px_mem_good (px_t4 (i := 7) rfl) rfl
theorem wd_73 : Cond.instantiable "WreckField$Dive" 5 ∈ px_good := px_mem_good (px_t3 (i := 235) rfl) rfl
theorem wd_74 : Cond.code yX0_init cX0_init 6 none ∈ px_good := px_mem_good (px_t3 (i := 238) rfl) rfl
theorem wd_75 : Cond.instanceMethod ⟨"WreckField$Dive", "<init>", "(IIIII)V"⟩ ∈ px_good := px_mem_good (px_t3 (i := 237) rfl) rfl
theorem wd_76 : Cond.methodLink "WreckField$DiveLog" 93 ⟨"WreckField$Dive", "<init>", "(IIIII)V"⟩ ∈ px_good := px_mem_good (px_t3 (i := 236) rfl) rfl
theorem wd_77 : Cond.constant "WreckField$DiveLog" 96 1439999 ∈ px_good := px_mem_good (px_t4 (i := 41) rfl) rfl
theorem wd_78 : Cond.methodLink "WreckField$DiveLog" 97 ⟨"java/lang/Math", "min", "(II)I"⟩ ∈ px_good := px_mem_good (px_t4 (i := 42) rfl) rfl
theorem wd_79 : Cond.static ⟨"java/lang/Math", "min", "(II)I"⟩ ∈ px_good := px_mem_good (px_t4 (i := 43) rfl) rfl
theorem wd_80 : Cond.code Lib.Math.min.name Lib.Math.min.code 2 (some .int) ∈ px_good := px_mem_good (px_t4 (i := 44) rfl) rfl
theorem wd_81 : Cond.code yX1_pastHindrance cX1_pastHindrance 10 (some .int) ∈ px_good := px_mem_good (px_t4 (i := 48) rfl) rfl
theorem wd_82 : Cond.methodLink "WreckField$DiveLog" 100 ⟨"WreckField$DiveLog", "pastHindrance", "(IIIII)I"⟩ ∈ px_good := px_mem_good (px_t4 (i := 45) rfl) rfl
theorem wd_83 : Cond.instanceMethod ⟨"WreckField$DiveLog", "pastHindrance", "(IIIII)I"⟩ ∈ px_good := px_mem_good (px_t4 (i := 47) rfl) rfl
theorem wd_84 : Cond.selects "WreckField$DiveLog" ⟨"WreckField$DiveLog", "pastHindrance", "(IIIII)I"⟩ ⟨"WreckField$DiveLog", "pastHindrance", "(IIIII)I"⟩ ∈ px_good := px_mem_good (px_sel (y := ⟨"WreckField$DiveLog", "pastHindrance", "(IIIII)I"⟩) (n := 7) (px_p2 (i := 4) rfl)) rfl
theorem wd_85 : Cond.methodLink "WreckField$Find" 3 ⟨"java/lang/Object", "<init>", "()V"⟩ ∈ px_good := px_mem_good (px_t2 (i := 227) rfl) rfl
theorem wd_86 : Cond.fieldLink "WreckField$Find" 9 "WreckField$Find" "holeCount" "I" ∈ px_good := px_mem_good (px_t2 (i := 239) rfl) rfl
theorem wd_87 : Cond.fieldLink "WreckField$Find" 15 "WreckField$Find" "holes" "[I" ∈ px_good := px_mem_good (px_t3 (i := 1) rfl) rfl
theorem wd_88 : Cond.fieldLink "WreckField$Find" 19 "WreckField$Find" "isInField" "Z" ∈ px_good := px_mem_good (px_t3 (i := 3) rfl) rfl
theorem wd_89 : Cond.fieldLink "WreckField$Find" 23 "WreckField$Find" "tank" "I" ∈ px_good := px_mem_good (px_t3 (i := 5) rfl) rfl
theorem wd_90 : Cond.fieldLink "WreckField$Find" 26 "WreckField$Find" "came" "I" ∈ px_good := px_mem_good (px_t3 (i := 8) rfl) rfl
theorem wd_91 : Cond.fieldLink "WreckField$Find" 29 "WreckField$Find" "kind" "I" ∈ px_good := px_mem_good (px_t2 (i := 228) rfl) rfl
theorem wd_92 : Cond.fieldLink "WreckField$Find" 32 "WreckField$Find" "square" "I" ∈ px_good := px_mem_good (px_t2 (i := 231) rfl) rfl
theorem wd_93 : Cond.fieldLink "WreckField$Find" 35 "WreckField$Find" "layer" "I" ∈ px_good := px_mem_good (px_t2 (i := 233) rfl) rfl
theorem wd_94 : Cond.fieldLink "WreckField$Find" 38 "WreckField$Find" "size" "I" ∈ px_good := px_mem_good (px_t2 (i := 236) rfl) rfl
theorem wd_95 : Cond.fieldLink "WreckField$Find" 41 "WreckField$Find" "KIND_ABOVE" "[I" ∈ px_good := px_mem_good (px_t3 (i := 107) rfl) rfl
theorem wd_96 : Cond.code yX2_readyDay cX2_readyDay 1 (some .int) ∈ px_good := px_mem_good (px_t3 (i := 56) rfl) rfl
theorem wd_97 : Cond.methodLink "WreckField$Find" 44 ⟨"WreckField$Find", "readyDay", "()I"⟩ ∈ px_good := px_mem_good (px_t3 (i := 53) rfl) rfl
theorem wd_98 : Cond.instanceMethod ⟨"WreckField$Find", "readyDay", "()I"⟩ ∈ px_good := px_mem_good (px_t3 (i := 54) rfl) rfl
theorem wd_99 : Cond.selects "WreckField$Find" ⟨"WreckField$Find", "readyDay", "()I"⟩ ⟨"WreckField$Find", "readyDay", "()I"⟩ ∈ px_good := px_mem_good (px_t3 (i := 55) rfl) rfl
theorem wd_100 : Cond.initialized "WreckField$Find" ∈ px_good := px_mem_good (px_t1 (i := 13) rfl) rfl
theorem wd_101 : Cond.fieldLink "WreckField$Find" 48 "WreckField$Find" "WEEKS" "[I" ∈ px_good := px_mem_good (px_t3 (i := 57) rfl) rfl
theorem wd_102 : Cond.methodLink "WreckField$Planner" 5 ⟨"java/lang/Object", "<init>", "()V"⟩ ∈ px_good := px_mem_good (px_t1 (i := 235) rfl) rfl
theorem wd_103 : Cond.fieldLink "WreckField$Planner" 11 "WreckField$Planner" "tasks" "I" ∈ px_good := px_mem_good (px_t1 (i := 236) rfl) rfl
theorem wd_104 : Cond.fieldLink "WreckField$Planner" 15 "WreckField$Planner" "gangs" "I" ∈ px_good := px_mem_good (px_t1 (i := 238) rfl) rfl
theorem wd_105 : Cond.fieldLink "WreckField$Planner" 18 "WreckField$Planner" "gangMinutes" "[I" ∈ px_good := px_mem_good (px_t2 (i := 0) rfl) rfl
theorem wd_106 : Cond.fieldLink "WreckField$Planner" 22 "WreckField$Planner" "setMinutes" "[I" ∈ px_good := px_mem_good (px_t2 (i := 1) rfl) rfl
theorem wd_107 : Cond.fieldLink "WreckField$Planner" 25 "WreckField$Planner" "setPlaces" "[I" ∈ px_good := px_mem_good (px_t2 (i := 2) rfl) rfl
theorem wd_108 : Cond.arrayClass .long ∈ px_good := px_mem_good (px_t2 (i := 29) rfl) rfl
theorem wd_109 : Cond.fieldLink "WreckField$Planner" 28 "WreckField$Planner" "setWorth" "[J" ∈ px_good := px_mem_good (px_t2 (i := 3) rfl) rfl
theorem wd_110 : Cond.fieldLink "WreckField$Planner" 32 "WreckField$Planner" "bestMerit" "[J" ∈ px_good := px_mem_good (px_t2 (i := 4) rfl) rfl
theorem wd_111 : Cond.fieldLink "WreckField$Planner" 35 "WreckField$Planner" "isPlanned" "Z" ∈ px_good := px_mem_good (px_t2 (i := 5) rfl) rfl
theorem wd_112 : Cond.fieldLink "WreckField$Planner" 39 "WreckField$Planner" "greatest" "I" ∈ px_good := px_mem_good (px_t2 (i := 6) rfl) rfl
theorem wd_113 : Cond.fieldLink "WreckField$Planner" 42 "WreckField$Planner" "gangOfTask" "[I" ∈ px_good := px_mem_good (px_t2 (i := 7) rfl) rfl
theorem wd_114 : Cond.constant "WreckField$Planner" 45 390625 ∈ px_good := px_mem_good (px_t5 (i := 5) rfl) rfl
theorem wd_115 : Cond.constantLong "WreckField$Planner" 46 1953125 ∈ px_good := px_mem_good (px_t5 (i := 6) rfl) rfl
theorem wd_116 : Cond.code yX3_planIfNew cX3_planIfNew 3 none ∈ px_good := px_mem_good (px_t5 (i := 26) rfl) rfl
theorem wd_117 : Cond.methodLink "WreckField$Planner" 48 ⟨"WreckField$Planner", "planIfNew", "()V"⟩ ∈ px_good := px_mem_good (px_t5 (i := 23) rfl) rfl
theorem wd_118 : Cond.instanceMethod ⟨"WreckField$Planner", "planIfNew", "()V"⟩ ∈ px_good := px_mem_good (px_t5 (i := 25) rfl) rfl
theorem wd_119 : Cond.selects "WreckField$Planner" ⟨"WreckField$Planner", "planIfNew", "()V"⟩ ⟨"WreckField$Planner", "planIfNew", "()V"⟩ ∈ px_good := px_mem_good (px_sel (y := ⟨"WreckField$Planner", "planIfNew", "()V"⟩) (n := 10) (px_p3 (i := 4) rfl)) rfl
theorem wd_120 : Cond.initialized "WreckField$Planner" ∈ px_good := px_mem_good (px_t1 (i := 8) rfl) rfl
theorem wd_121 : Cond.code yX3_giveToGang cX3_giveToGang 9 none ∈ px_good := px_mem_good (px_t5 (i := 30) rfl) rfl
theorem wd_122 : Cond.methodLink "WreckField$Planner" 51 ⟨"WreckField$Planner", "giveToGang", "(II)V"⟩ ∈ px_good := px_mem_good (px_t5 (i := 27) rfl) rfl
theorem wd_123 : Cond.instanceMethod ⟨"WreckField$Planner", "giveToGang", "(II)V"⟩ ∈ px_good := px_mem_good (px_t5 (i := 29) rfl) rfl
theorem wd_124 : Cond.selects "WreckField$Planner" ⟨"WreckField$Planner", "giveToGang", "(II)V"⟩ ⟨"WreckField$Planner", "giveToGang", "(II)V"⟩ ∈ px_good := px_mem_good (px_sel (y := ⟨"WreckField$Planner", "giveToGang", "(II)V"⟩) (n := 10) (px_p3 (i := 5) rfl)) rfl
theorem wd_125 : Cond.code yX3_keepPlan cX3_keepPlan 7 none ∈ px_good := px_mem_good (px_t5 (i := 37) rfl) rfl
theorem wd_126 : Cond.methodLink "WreckField$Planner" 55 ⟨"WreckField$Planner", "keepPlan", "(J)V"⟩ ∈ px_good := px_mem_good (px_t5 (i := 34) rfl) rfl
theorem wd_127 : Cond.instanceMethod ⟨"WreckField$Planner", "keepPlan", "(J)V"⟩ ∈ px_good := px_mem_good (px_t5 (i := 36) rfl) rfl
theorem wd_128 : Cond.selects "WreckField$Planner" ⟨"WreckField$Planner", "keepPlan", "(J)V"⟩ ⟨"WreckField$Planner", "keepPlan", "(J)V"⟩ ∈ px_good := px_mem_good (px_sel (y := ⟨"WreckField$Planner", "keepPlan", "(J)V"⟩) (n := 10) (px_p3 (i := 6) rfl)) rfl
theorem wd_129 : Cond.methodLink "WreckField$Planner" 59 ⟨"java/lang/Math", "max", "(JJ)J"⟩ ∈ px_good := px_mem_good (px_t5 (i := 31) rfl) rfl
theorem wd_130 : Cond.static ⟨"java/lang/Math", "max", "(JJ)J"⟩ ∈ px_good := px_mem_good (px_t5 (i := 32) rfl) rfl
theorem wd_131 : Cond.code Lib.MathLoose.max_long.x Lib.MathLoose.max_long.code 4 (some .long) ∈ px_good := px_mem_good (px_t5 (i := 33) rfl) rfl
theorem wd_132 : Cond.methodLink "WreckField$Rule" 3 ⟨"java/lang/Object", "<init>", "()V"⟩ ∈ px_good := px_mem_good (px_t1 (i := 163) rfl) rfl
theorem wd_133 : Cond.fieldLink "WreckField$Rule" 9 "WreckField$Rule" "bars" "I" ∈ px_good := px_mem_good (px_t1 (i := 164) rfl) rfl
theorem wd_134 : Cond.fieldLink "WreckField$Rule" 15 "WreckField$Rule" "steps" "I" ∈ px_good := px_mem_good (px_t1 (i := 167) rfl) rfl
theorem wd_135 : Cond.fieldLink "WreckField$Rule" 18 "WreckField$Rule" "barEnd" "[I" ∈ px_good := px_mem_good (px_t1 (i := 168) rfl) rfl
theorem wd_136 : Cond.fieldLink "WreckField$Rule" 22 "WreckField$Rule" "step" "[I" ∈ px_good := px_mem_good (px_t1 (i := 169) rfl) rfl
theorem wd_137 : Cond.fieldLink "WreckField$Rule" 25 "WreckField$Rule" "operand" "[I" ∈ px_good := px_mem_good (px_t1 (i := 170) rfl) rfl
theorem wd_138 : Cond.fieldLink "WreckField$Rule" 28 "WreckField$Rule" "stack" "[I" ∈ px_good := px_mem_good (px_t1 (i := 171) rfl) rfl
theorem wd_139 : Cond.code yX4_valueOf cX4_valueOf 7 (some .int) ∈ px_good := px_mem_good (px_t3 (i := 116) rfl) rfl
theorem wd_140 : Cond.methodLink "WreckField$Rule" 31 ⟨"WreckField$Rule", "valueOf", "(ILWreckField$Find;I)I"⟩ ∈ px_good := px_mem_good (px_t3 (i := 113) rfl) rfl
theorem wd_141 : Cond.instanceMethod ⟨"WreckField$Rule", "valueOf", "(ILWreckField$Find;I)I"⟩ ∈ px_good := px_mem_good (px_t3 (i := 114) rfl) rfl
theorem wd_142 : Cond.selects "WreckField$Rule" ⟨"WreckField$Rule", "valueOf", "(ILWreckField$Find;I)I"⟩ ⟨"WreckField$Rule", "valueOf", "(ILWreckField$Find;I)I"⟩ ∈ px_good := px_mem_good (px_t3 (i := 115) rfl) rfl
theorem wd_143 : Cond.initialized "WreckField$Rule" ∈ px_good := px_mem_good (px_t1 (i := 6) rfl) rfl
theorem wd_144 : Cond.code yX4_named cX4_named 3 (some .int) ∈ px_good := px_mem_good (px_t3 (i := 119) rfl) rfl
theorem wd_145 : Cond.methodLink "WreckField$Rule" 35 ⟨"WreckField$Rule", "named", "(ILWreckField$Find;I)I"⟩ ∈ px_good := px_mem_good (px_t3 (i := 117) rfl) rfl
theorem wd_146 : Cond.static ⟨"WreckField$Rule", "named", "(ILWreckField$Find;I)I"⟩ ∈ px_good := px_mem_good (px_t3 (i := 118) rfl) rfl
theorem wd_147 : Cond.code yX4_ofOne cX4_ofOne 2 (some .int) ∈ px_good := px_mem_good (px_t3 (i := 130) rfl) rfl
theorem wd_148 : Cond.methodLink "WreckField$Rule" 38 ⟨"WreckField$Rule", "ofOne", "(II)I"⟩ ∈ px_good := px_mem_good (px_t3 (i := 128) rfl) rfl
theorem wd_149 : Cond.static ⟨"WreckField$Rule", "ofOne", "(II)I"⟩ ∈ px_good := px_mem_good (px_t3 (i := 129) rfl) rfl
theorem wd_150 : Cond.code yX4_ofTwo cX4_ofTwo 3 (some .int) ∈ px_good := px_mem_good (px_t3 (i := 136) rfl) rfl
theorem wd_151 : Cond.methodLink "WreckField$Rule" 42 ⟨"WreckField$Rule", "ofTwo", "(III)I"⟩ ∈ px_good := px_mem_good (px_t3 (i := 134) rfl) rfl
theorem wd_152 : Cond.static ⟨"WreckField$Rule", "ofTwo", "(III)I"⟩ ∈ px_good := px_mem_good (px_t3 (i := 135) rfl) rfl
theorem wd_153 : Cond.fieldLink "WreckField$Rule" 46 "WreckField$Find" "kind" "I" ∈ px_good := px_mem_good (px_t2 (i := 230) rfl) rfl
theorem wd_154 : Cond.fieldLink "WreckField$Rule" 51 "WreckField$Find" "size" "I" ∈ px_good := px_mem_good (px_t2 (i := 237) rfl) rfl
theorem wd_155 : Cond.fieldLink "WreckField$Rule" 54 "WreckField$Find" "layer" "I" ∈ px_good := px_mem_good (px_t2 (i := 235) rfl) rfl
theorem wd_156 : Cond.code yX2_x cX2_x 1 (some .int) ∈ px_good := px_mem_good (px_t3 (i := 123) rfl) rfl
theorem wd_157 : Cond.methodLink "WreckField$Rule" 57 ⟨"WreckField$Find", "x", "()I"⟩ ∈ px_good := px_mem_good (px_t3 (i := 120) rfl) rfl
theorem wd_158 : Cond.instanceMethod ⟨"WreckField$Find", "x", "()I"⟩ ∈ px_good := px_mem_good (px_t3 (i := 121) rfl) rfl
theorem wd_159 : Cond.selects "WreckField$Find" ⟨"WreckField$Find", "x", "()I"⟩ ⟨"WreckField$Find", "x", "()I"⟩ ∈ px_good := px_mem_good (px_t3 (i := 122) rfl) rfl
theorem wd_160 : Cond.code yX2_y cX2_y 1 (some .int) ∈ px_good := px_mem_good (px_t3 (i := 127) rfl) rfl
theorem wd_161 : Cond.methodLink "WreckField$Rule" 61 ⟨"WreckField$Find", "y", "()I"⟩ ∈ px_good := px_mem_good (px_t3 (i := 124) rfl) rfl
theorem wd_162 : Cond.instanceMethod ⟨"WreckField$Find", "y", "()I"⟩ ∈ px_good := px_mem_good (px_t3 (i := 125) rfl) rfl
theorem wd_163 : Cond.selects "WreckField$Find" ⟨"WreckField$Find", "y", "()I"⟩ ⟨"WreckField$Find", "y", "()I"⟩ ∈ px_good := px_mem_good (px_t3 (i := 126) rfl) rfl
theorem wd_164 : Cond.code yX4_truth cX4_truth 1 (some .int) ∈ px_good := px_mem_good (px_t3 (i := 133) rfl) rfl
theorem wd_165 : Cond.methodLink "WreckField$Rule" 64 ⟨"WreckField$Rule", "truth", "(Z)I"⟩ ∈ px_good := px_mem_good (px_t3 (i := 131) rfl) rfl
theorem wd_166 : Cond.static ⟨"WreckField$Rule", "truth", "(Z)I"⟩ ∈ px_good := px_mem_good (px_t3 (i := 132) rfl) rfl
theorem wd_167 : Cond.methodLink "WreckField$RuleReader" 3 ⟨"java/lang/Object", "<init>", "()V"⟩ ∈ px_good := px_mem_good (px_t1 (i := 157) rfl) rfl
theorem wd_168 : Cond.classLink "WreckField$RuleReader" 9 "WreckField$Rule" ∈ px_good := px_mem_good (px_t1 (i := 158) rfl) rfl
theorem wd_169 : Cond.instantiable "WreckField$Rule" 6 ∈ px_good := px_mem_good (px_t1 (i := 159) rfl) rfl
theorem wd_170 : Cond.code yX4_init cX4_init 1 none ∈ px_good := px_mem_good (px_t1 (i := 162) rfl) rfl
theorem wd_171 : Cond.instanceMethod ⟨"WreckField$Rule", "<init>", "()V"⟩ ∈ px_good := px_mem_good (px_t1 (i := 161) rfl) rfl
theorem wd_172 : Cond.fieldLink "WreckField$RuleReader" 12 "WreckField$RuleReader" "current" "LWreckField$Rule;" ∈ px_good := px_mem_good (px_t1 (i := 185) rfl) rfl
theorem wd_173 : Cond.fieldLink "WreckField$RuleReader" 18 "WreckField$RuleReader" "draft" "LWreckField$Rule;" ∈ px_good := px_mem_good (px_t1 (i := 187) rfl) rfl
theorem wd_174 : Cond.fieldLink "WreckField$RuleReader" 21 "WreckField$RuleReader" "size" "I" ∈ px_good := px_mem_good (px_t1 (i := 188) rfl) rfl
theorem wd_175 : Cond.fieldLink "WreckField$RuleReader" 25 "WreckField$RuleReader" "text" "[I" ∈ px_good := px_mem_good (px_t1 (i := 190) rfl) rfl
theorem wd_176 : Cond.fieldLink "WreckField$RuleReader" 29 "WreckField$RuleReader" "tokenStart" "I" ∈ px_good := px_mem_good (px_t1 (i := 191) rfl) rfl
theorem wd_177 : Cond.fieldLink "WreckField$RuleReader" 32 "WreckField$RuleReader" "tokenEnd" "I" ∈ px_good := px_mem_good (px_t1 (i := 192) rfl) rfl
theorem wd_178 : Cond.fieldLink "WreckField$RuleReader" 35 "WreckField$RuleReader" "token" "I" ∈ px_good := px_mem_good (px_t1 (i := 193) rfl) rfl
theorem wd_179 : Cond.fieldLink "WreckField$RuleReader" 38 "WreckField$RuleReader" "value" "I" ∈ px_good := px_mem_good (px_t1 (i := 194) rfl) rfl
theorem wd_180 : Cond.constantLong "WreckField$RuleReader" 41 255 ∈ px_good := px_mem_good (px_t4 (i := 57) rfl) rfl
theorem wd_181 : Cond.code yX4_clear cX4_clear 1 none ∈ px_good := px_mem_good (px_t4 (i := 69) rfl) rfl
theorem wd_182 : Cond.methodLink "WreckField$RuleReader" 43 ⟨"WreckField$Rule", "clear", "()V"⟩ ∈ px_good := px_mem_good (px_t4 (i := 66) rfl) rfl
theorem wd_183 : Cond.instanceMethod ⟨"WreckField$Rule", "clear", "()V"⟩ ∈ px_good := px_mem_good (px_t4 (i := 67) rfl) rfl
theorem wd_184 : Cond.selects "WreckField$Rule" ⟨"WreckField$Rule", "clear", "()V"⟩ ⟨"WreckField$Rule", "clear", "()V"⟩ ∈ px_good := px_mem_good (px_t4 (i := 68) rfl) rfl
theorem wd_185 : Cond.code yX5_next cX5_next 2 none ∈ px_good := px_mem_good (px_t4 (i := 73) rfl) rfl
theorem wd_186 : Cond.methodLink "WreckField$RuleReader" 46 ⟨"WreckField$RuleReader", "next", "()V"⟩ ∈ px_good := px_mem_good (px_t4 (i := 70) rfl) rfl
theorem wd_187 : Cond.instanceMethod ⟨"WreckField$RuleReader", "next", "()V"⟩ ∈ px_good := px_mem_good (px_t4 (i := 72) rfl) rfl
theorem wd_188 : Cond.selects "WreckField$RuleReader" ⟨"WreckField$RuleReader", "next", "()V"⟩ ⟨"WreckField$RuleReader", "next", "()V"⟩ ∈ px_good := px_mem_good (px_sel (y := ⟨"WreckField$RuleReader", "next", "()V"⟩) (n := 8) (px_p2 (i := 5) rfl)) rfl
theorem wd_189 : Cond.initialized "WreckField$RuleReader" ∈ px_good := px_mem_good (px_t1 (i := 5) rfl) rfl
theorem wd_190 : Cond.code yX5_readBars cX5_readBars 2 (some .boolean) ∈ px_good := px_mem_good (px_t4 (i := 159) rfl) rfl
theorem wd_191 : Cond.methodLink "WreckField$RuleReader" 49 ⟨"WreckField$RuleReader", "readBars", "()Z"⟩ ∈ px_good := px_mem_good (px_t4 (i := 156) rfl) rfl
theorem wd_192 : Cond.instanceMethod ⟨"WreckField$RuleReader", "readBars", "()Z"⟩ ∈ px_good := px_mem_good (px_t4 (i := 158) rfl) rfl
theorem wd_193 : Cond.selects "WreckField$RuleReader" ⟨"WreckField$RuleReader", "readBars", "()Z"⟩ ⟨"WreckField$RuleReader", "readBars", "()Z"⟩ ∈ px_good := px_mem_good (px_sel (y := ⟨"WreckField$RuleReader", "readBars", "()Z"⟩) (n := 8) (px_p2 (i := 9) rfl)) rfl
theorem wd_194 : Cond.fieldLink "WreckField$RuleReader" 53 "WreckField$Rule" "bars" "I" ∈ px_good := px_mem_good (px_t1 (i := 165) rfl) rfl
theorem wd_195 : Cond.code yX5_readOr cX5_readOr 4 (some .boolean) ∈ px_good := px_mem_good (px_t4 (i := 163) rfl) rfl
theorem wd_196 : Cond.methodLink "WreckField$RuleReader" 56 ⟨"WreckField$RuleReader", "readOr", "(I)Z"⟩ ∈ px_good := px_mem_good (px_t4 (i := 160) rfl) rfl
theorem wd_197 : Cond.instanceMethod ⟨"WreckField$RuleReader", "readOr", "(I)Z"⟩ ∈ px_good := px_mem_good (px_t4 (i := 162) rfl) rfl
theorem wd_198 : Cond.selects "WreckField$RuleReader" ⟨"WreckField$RuleReader", "readOr", "(I)Z"⟩ ⟨"WreckField$RuleReader", "readOr", "(I)Z"⟩ ∈ px_good := px_mem_good (px_sel (y := ⟨"WreckField$RuleReader", "readOr", "(I)Z"⟩) (n := 8) (px_p2 (i := 10) rfl)) rfl
theorem wd_199 : Cond.code yX4_endBar cX4_endBar 1 none ∈ px_good := px_mem_good (px_t4 (i := 203) rfl) rfl
theorem wd_200 : Cond.methodLink "WreckField$RuleReader" 60 ⟨"WreckField$Rule", "endBar", "()V"⟩ ∈ px_good := px_mem_good (px_t4 (i := 200) rfl) rfl
theorem wd_201 : Cond.instanceMethod ⟨"WreckField$Rule", "endBar", "()V"⟩ ∈ px_good := px_mem_good (px_t4 (i := 201) rfl) rfl
theorem wd_202 : Cond.selects "WreckField$Rule" ⟨"WreckField$Rule", "endBar", "()V"⟩ ⟨"WreckField$Rule", "endBar", "()V"⟩ ∈ px_good := px_mem_good (px_t4 (i := 202) rfl) rfl
theorem wd_203 : Cond.code yX5_readAnd cX5_readAnd 4 (some .boolean) ∈ px_good := px_mem_good (px_t4 (i := 167) rfl) rfl
theorem wd_204 : Cond.methodLink "WreckField$RuleReader" 63 ⟨"WreckField$RuleReader", "readAnd", "(I)Z"⟩ ∈ px_good := px_mem_good (px_t4 (i := 164) rfl) rfl
theorem wd_205 : Cond.instanceMethod ⟨"WreckField$RuleReader", "readAnd", "(I)Z"⟩ ∈ px_good := px_mem_good (px_t4 (i := 166) rfl) rfl
theorem wd_206 : Cond.selects "WreckField$RuleReader" ⟨"WreckField$RuleReader", "readAnd", "(I)Z"⟩ ⟨"WreckField$RuleReader", "readAnd", "(I)Z"⟩ ∈ px_good := px_mem_good (px_sel (y := ⟨"WreckField$RuleReader", "readAnd", "(I)Z"⟩) (n := 8) (px_p2 (i := 11) rfl)) rfl
theorem wd_207 : Cond.code yX4_add cX4_add 3 none ∈ px_good := px_mem_good (px_t4 (i := 191) rfl) rfl
theorem wd_208 : Cond.methodLink "WreckField$RuleReader" 66 ⟨"WreckField$Rule", "add", "(II)V"⟩ ∈ px_good := px_mem_good (px_t4 (i := 188) rfl) rfl
theorem wd_209 : Cond.instanceMethod ⟨"WreckField$Rule", "add", "(II)V"⟩ ∈ px_good := px_mem_good (px_t4 (i := 189) rfl) rfl
theorem wd_210 : Cond.selects "WreckField$Rule" ⟨"WreckField$Rule", "add", "(II)V"⟩ ⟨"WreckField$Rule", "add", "(II)V"⟩ ∈ px_good := px_mem_good (px_t4 (i := 190) rfl) rfl
theorem wd_211 : Cond.code yX5_readNot cX5_readNot 3 (some .boolean) ∈ px_good := px_mem_good (px_t4 (i := 171) rfl) rfl
theorem wd_212 : Cond.methodLink "WreckField$RuleReader" 70 ⟨"WreckField$RuleReader", "readNot", "(I)Z"⟩ ∈ px_good := px_mem_good (px_t4 (i := 168) rfl) rfl
theorem wd_213 : Cond.instanceMethod ⟨"WreckField$RuleReader", "readNot", "(I)Z"⟩ ∈ px_good := px_mem_good (px_t4 (i := 170) rfl) rfl
theorem wd_214 : Cond.selects "WreckField$RuleReader" ⟨"WreckField$RuleReader", "readNot", "(I)Z"⟩ ⟨"WreckField$RuleReader", "readNot", "(I)Z"⟩ ∈ px_good := px_mem_good (px_sel (y := ⟨"WreckField$RuleReader", "readNot", "(I)Z"⟩) (n := 8) (px_p2 (i := 12) rfl)) rfl
theorem wd_215 : Cond.code yX5_readCompared cX5_readCompared 4 (some .boolean) ∈ px_good := px_mem_good (px_t4 (i := 175) rfl) rfl
theorem wd_216 : Cond.methodLink "WreckField$RuleReader" 73 ⟨"WreckField$RuleReader", "readCompared", "(I)Z"⟩ ∈ px_good := px_mem_good (px_t4 (i := 172) rfl) rfl
theorem wd_217 : Cond.instanceMethod ⟨"WreckField$RuleReader", "readCompared", "(I)Z"⟩ ∈ px_good := px_mem_good (px_t4 (i := 174) rfl) rfl
theorem wd_218 : Cond.selects "WreckField$RuleReader" ⟨"WreckField$RuleReader", "readCompared", "(I)Z"⟩ ⟨"WreckField$RuleReader", "readCompared", "(I)Z"⟩ ∈ px_good := px_mem_good (px_sel (y := ⟨"WreckField$RuleReader", "readCompared", "(I)Z"⟩) (n := 8) (px_p2 (i := 13) rfl)) rfl
theorem wd_219 : Cond.code yX5_readSum cX5_readSum 5 (some .boolean) ∈ px_good := px_mem_good (px_t4 (i := 179) rfl) rfl
theorem wd_220 : Cond.methodLink "WreckField$RuleReader" 76 ⟨"WreckField$RuleReader", "readSum", "(I)Z"⟩ ∈ px_good := px_mem_good (px_t4 (i := 176) rfl) rfl
theorem wd_221 : Cond.instanceMethod ⟨"WreckField$RuleReader", "readSum", "(I)Z"⟩ ∈ px_good := px_mem_good (px_t4 (i := 178) rfl) rfl
theorem wd_222 : Cond.selects "WreckField$RuleReader" ⟨"WreckField$RuleReader", "readSum", "(I)Z"⟩ ⟨"WreckField$RuleReader", "readSum", "(I)Z"⟩ ∈ px_good := px_mem_good (px_sel (y := ⟨"WreckField$RuleReader", "readSum", "(I)Z"⟩) (n := 8) (px_p2 (i := 14) rfl)) rfl
theorem wd_223 : Cond.code yX5_readTerm cX5_readTerm 4 (some .boolean) ∈ px_good := px_mem_good (px_t4 (i := 183) rfl) rfl
theorem wd_224 : Cond.methodLink "WreckField$RuleReader" 79 ⟨"WreckField$RuleReader", "readTerm", "(I)Z"⟩ ∈ px_good := px_mem_good (px_t4 (i := 180) rfl) rfl
theorem wd_225 : Cond.instanceMethod ⟨"WreckField$RuleReader", "readTerm", "(I)Z"⟩ ∈ px_good := px_mem_good (px_t4 (i := 182) rfl) rfl
theorem wd_226 : Cond.selects "WreckField$RuleReader" ⟨"WreckField$RuleReader", "readTerm", "(I)Z"⟩ ⟨"WreckField$RuleReader", "readTerm", "(I)Z"⟩ ∈ px_good := px_mem_good (px_sel (y := ⟨"WreckField$RuleReader", "readTerm", "(I)Z"⟩) (n := 8) (px_p2 (i := 15) rfl)) rfl
theorem wd_227 : Cond.code yX5_readOne cX5_readOne 2 (some .boolean) ∈ px_good := px_mem_good (px_t4 (i := 187) rfl) rfl
theorem wd_228 : Cond.methodLink "WreckField$RuleReader" 82 ⟨"WreckField$RuleReader", "readOne", "(I)Z"⟩ ∈ px_good := px_mem_good (px_t4 (i := 184) rfl) rfl
theorem wd_229 : Cond.instanceMethod ⟨"WreckField$RuleReader", "readOne", "(I)Z"⟩ ∈ px_good := px_mem_good (px_t4 (i := 186) rfl) rfl
theorem wd_230 : Cond.selects "WreckField$RuleReader" ⟨"WreckField$RuleReader", "readOne", "(I)Z"⟩ ⟨"WreckField$RuleReader", "readOne", "(I)Z"⟩ ∈ px_good := px_mem_good (px_sel (y := ⟨"WreckField$RuleReader", "readOne", "(I)Z"⟩) (n := 8) (px_p3 (i := 0) rfl)) rfl
theorem wd_231 : Cond.code yX5_readNegated cX5_readNegated 3 (some .boolean) ∈ px_good := px_mem_good (px_t4 (i := 195) rfl) rfl
theorem wd_232 : Cond.methodLink "WreckField$RuleReader" 85 ⟨"WreckField$RuleReader", "readNegated", "(I)Z"⟩ ∈ px_good := px_mem_good (px_t4 (i := 192) rfl) rfl
theorem wd_233 : Cond.instanceMethod ⟨"WreckField$RuleReader", "readNegated", "(I)Z"⟩ ∈ px_good := px_mem_good (px_t4 (i := 194) rfl) rfl
theorem wd_234 : Cond.selects "WreckField$RuleReader" ⟨"WreckField$RuleReader", "readNegated", "(I)Z"⟩ ⟨"WreckField$RuleReader", "readNegated", "(I)Z"⟩ ∈ px_good := px_mem_good (px_sel (y := ⟨"WreckField$RuleReader", "readNegated", "(I)Z"⟩) (n := 8) (px_p3 (i := 1) rfl)) rfl
theorem wd_235 : Cond.code yX5_readInner cX5_readInner 2 (some .boolean) ∈ px_good := px_mem_good (px_t4 (i := 199) rfl) rfl
theorem wd_236 : Cond.methodLink "WreckField$RuleReader" 88 ⟨"WreckField$RuleReader", "readInner", "(I)Z"⟩ ∈ px_good := px_mem_good (px_t4 (i := 196) rfl) rfl
theorem wd_237 : Cond.instanceMethod ⟨"WreckField$RuleReader", "readInner", "(I)Z"⟩ ∈ px_good := px_mem_good (px_t4 (i := 198) rfl) rfl
theorem wd_238 : Cond.selects "WreckField$RuleReader" ⟨"WreckField$RuleReader", "readInner", "(I)Z"⟩ ⟨"WreckField$RuleReader", "readInner", "(I)Z"⟩ ∈ px_good := px_mem_good (px_sel (y := ⟨"WreckField$RuleReader", "readInner", "(I)Z"⟩) (n := 8) (px_p3 (i := 2) rfl)) rfl
theorem wd_239 : Cond.code yX5_isLetter cX5_isLetter 1 (some .boolean) ∈ px_good := px_mem_good (px_t4 (i := 76) rfl) rfl
theorem wd_240 : Cond.methodLink "WreckField$RuleReader" 91 ⟨"WreckField$RuleReader", "isLetter", "(I)Z"⟩ ∈ px_good := px_mem_good (px_t4 (i := 74) rfl) rfl
theorem wd_241 : Cond.static ⟨"WreckField$RuleReader", "isLetter", "(I)Z"⟩ ∈ px_good := px_mem_good (px_t4 (i := 75) rfl) rfl
theorem wd_242 : Cond.code yX5_takeWord cX5_takeWord 2 none ∈ px_good := px_mem_good (px_t4 (i := 80) rfl) rfl
theorem wd_243 : Cond.methodLink "WreckField$RuleReader" 94 ⟨"WreckField$RuleReader", "takeWord", "()V"⟩ ∈ px_good := px_mem_good (px_t4 (i := 77) rfl) rfl
theorem wd_244 : Cond.instanceMethod ⟨"WreckField$RuleReader", "takeWord", "()V"⟩ ∈ px_good := px_mem_good (px_t4 (i := 79) rfl) rfl
theorem wd_245 : Cond.selects "WreckField$RuleReader" ⟨"WreckField$RuleReader", "takeWord", "()V"⟩ ⟨"WreckField$RuleReader", "takeWord", "()V"⟩ ∈ px_good := px_mem_good (px_sel (y := ⟨"WreckField$RuleReader", "takeWord", "()V"⟩) (n := 8) (px_p2 (i := 6) rfl)) rfl
theorem wd_246 : Cond.code yX5_isDigit cX5_isDigit 1 (some .boolean) ∈ px_good := px_mem_good (px_t4 (i := 148) rfl) rfl
theorem wd_247 : Cond.methodLink "WreckField$RuleReader" 97 ⟨"WreckField$RuleReader", "isDigit", "(I)Z"⟩ ∈ px_good := px_mem_good (px_t4 (i := 146) rfl) rfl
theorem wd_248 : Cond.static ⟨"WreckField$RuleReader", "isDigit", "(I)Z"⟩ ∈ px_good := px_mem_good (px_t4 (i := 147) rfl) rfl
theorem wd_249 : Cond.code yX5_takeNumber cX5_takeNumber 1 none ∈ px_good := px_mem_good (px_t4 (i := 152) rfl) rfl
theorem wd_250 : Cond.methodLink "WreckField$RuleReader" 100 ⟨"WreckField$RuleReader", "takeNumber", "()V"⟩ ∈ px_good := px_mem_good (px_t4 (i := 149) rfl) rfl
theorem wd_251 : Cond.instanceMethod ⟨"WreckField$RuleReader", "takeNumber", "()V"⟩ ∈ px_good := px_mem_good (px_t4 (i := 151) rfl) rfl
theorem wd_252 : Cond.selects "WreckField$RuleReader" ⟨"WreckField$RuleReader", "takeNumber", "()V"⟩ ⟨"WreckField$RuleReader", "takeNumber", "()V"⟩ ∈ px_good := px_mem_good (px_sel (y := ⟨"WreckField$RuleReader", "takeNumber", "()V"⟩) (n := 8) (px_p2 (i := 8) rfl)) rfl
theorem wd_253 : Cond.code yX5_isSign cX5_isSign 1 (some .boolean) ∈ px_good := px_mem_good (px_t4 (i := 155) rfl) rfl
theorem wd_254 : Cond.methodLink "WreckField$RuleReader" 103 ⟨"WreckField$RuleReader", "isSign", "(I)Z"⟩ ∈ px_good := px_mem_good (px_t4 (i := 153) rfl) rfl
theorem wd_255 : Cond.static ⟨"WreckField$RuleReader", "isSign", "(I)Z"⟩ ∈ px_good := px_mem_good (px_t4 (i := 154) rfl) rfl
theorem wd_256 : Cond.code yX5_wordAt cX5_wordAt 1 (some (.object "java/lang/String")) ∈ px_good := px_mem_good (px_t4 (i := 83) rfl) rfl
theorem wd_257 : Cond.methodLink "WreckField$RuleReader" 106 ⟨"WreckField$RuleReader", "wordAt", "(I)Ljava/lang/String;"⟩ ∈ px_good := px_mem_good (px_t4 (i := 81) rfl) rfl
theorem wd_258 : Cond.static ⟨"WreckField$RuleReader", "wordAt", "(I)Ljava/lang/String;"⟩ ∈ px_good := px_mem_good (px_t4 (i := 82) rfl) rfl
theorem wd_259 : Cond.code yX5_isAtHand cX5_isAtHand 3 (some .boolean) ∈ px_good := px_mem_good (px_t4 (i := 97) rfl) rfl
theorem wd_260 : Cond.methodLink "WreckField$RuleReader" 110 ⟨"WreckField$RuleReader", "isAtHand", "(Ljava/lang/String;)Z"⟩ ∈ px_good := px_mem_good (px_t4 (i := 94) rfl) rfl
theorem wd_261 : Cond.instanceMethod ⟨"WreckField$RuleReader", "isAtHand", "(Ljava/lang/String;)Z"⟩ ∈ px_good := px_mem_good (px_t4 (i := 96) rfl) rfl
theorem wd_262 : Cond.selects "WreckField$RuleReader" ⟨"WreckField$RuleReader", "isAtHand", "(Ljava/lang/String;)Z"⟩ ⟨"WreckField$RuleReader", "isAtHand", "(Ljava/lang/String;)Z"⟩ ∈ px_good := px_mem_good (px_sel (y := ⟨"WreckField$RuleReader", "isAtHand", "(Ljava/lang/String;)Z"⟩) (n := 8) (px_p2 (i := 7) rfl)) rfl
theorem wd_263 : Cond.methodLink "WreckField$Sheets" 5 ⟨"java/lang/Object", "<init>", "()V"⟩ ∈ px_good := px_mem_good (px_t2 (i := 48) rfl) rfl
theorem wd_264 : Cond.fieldLink "WreckField$Sheets" 11 "WreckField$Sheets" "sorts" "[I" ∈ px_good := px_mem_good (px_t2 (i := 51) rfl) rfl
theorem wd_265 : Cond.fieldLink "WreckField$Sheets" 15 "WreckField$Sheets" "sizes" "[I" ∈ px_good := px_mem_good (px_t2 (i := 52) rfl) rfl
theorem wd_266 : Cond.classLink "WreckField$Sheets" 18 "[[I" ∈ px_good := px_mem_good (px_t2 (i := 49) rfl) rfl
theorem wd_267 : Cond.fieldLink "WreckField$Sheets" 20 "WreckField$Sheets" "items" "[[I" ∈ px_good := px_mem_good (px_t2 (i := 53) rfl) rfl
theorem wd_268 : Cond.code yX6_has cX6_has 2 (some .boolean) ∈ px_good := px_mem_good (px_t2 (i := 117) rfl) rfl
theorem wd_269 : Cond.methodLink "WreckField$Sheets" 23 ⟨"WreckField$Sheets", "has", "(I)Z"⟩ ∈ px_good := px_mem_good (px_t5 (i := 105) rfl) rfl
theorem wd_270 : Cond.instanceMethod ⟨"WreckField$Sheets", "has", "(I)Z"⟩ ∈ px_good := px_mem_good (px_t2 (i := 115) rfl) rfl
theorem wd_271 : Cond.selects "WreckField$Sheets" ⟨"WreckField$Sheets", "has", "(I)Z"⟩ ⟨"WreckField$Sheets", "has", "(I)Z"⟩ ∈ px_good := px_mem_good (px_t2 (i := 116) rfl) rfl
theorem wd_272 : Cond.initialized "WreckField$Sheets" ∈ px_good := px_mem_good (px_t1 (i := 10) rfl) rfl
theorem wd_273 : Cond.constant "WreckField$Sheets" 27 (-40000) ∈ px_good := px_mem_good (px_t5 (i := 114) rfl) rfl
theorem wd_274 : Cond.constant "WreckField$Sheets" 28 40000 ∈ px_good := px_mem_good (px_t5 (i := 115) rfl) rfl
theorem wd_275 : Cond.code yX6_holds cX6_holds 3 (some .boolean) ∈ px_good := px_mem_good (px_t2 (i := 125) rfl) rfl
theorem wd_276 : Cond.methodLink "WreckField$Sheets" 29 ⟨"WreckField$Sheets", "holds", "(II)Z"⟩ ∈ px_good := px_mem_good (px_t5 (i := 116) rfl) rfl
theorem wd_277 : Cond.instanceMethod ⟨"WreckField$Sheets", "holds", "(II)Z"⟩ ∈ px_good := px_mem_good (px_t2 (i := 123) rfl) rfl
theorem wd_278 : Cond.selects "WreckField$Sheets" ⟨"WreckField$Sheets", "holds", "(II)Z"⟩ ⟨"WreckField$Sheets", "holds", "(II)Z"⟩ ∈ px_good := px_mem_good (px_t2 (i := 124) rfl) rfl
theorem wd_279 : Cond.code yX6_cutTo cX6_cutTo 2 (some .int) ∈ px_good := px_mem_good (px_t5 (i := 119) rfl) rfl
theorem wd_280 : Cond.methodLink "WreckField$Sheets" 33 ⟨"WreckField$Sheets", "cutTo", "(II)I"⟩ ∈ px_good := px_mem_good (px_t5 (i := 117) rfl) rfl
theorem wd_281 : Cond.static ⟨"WreckField$Sheets", "cutTo", "(II)I"⟩ ∈ px_good := px_mem_good (px_t5 (i := 118) rfl) rfl
theorem wd_282 : Cond.code yX6_floatsRefusal cX6_floatsRefusal 2 (some .int) ∈ px_good := px_mem_good (px_t2 (i := 121) rfl) rfl
theorem wd_283 : Cond.methodLink "WreckField$Sheets" 37 ⟨"WreckField$Sheets", "floatsRefusal", "(I)I"⟩ ∈ px_good := px_mem_good (px_t5 (i := 128) rfl) rfl
theorem wd_284 : Cond.instanceMethod ⟨"WreckField$Sheets", "floatsRefusal", "(I)I"⟩ ∈ px_good := px_mem_good (px_t2 (i := 119) rfl) rfl
theorem wd_285 : Cond.selects "WreckField$Sheets" ⟨"WreckField$Sheets", "floatsRefusal", "(I)I"⟩ ⟨"WreckField$Sheets", "floatsRefusal", "(I)I"⟩ ∈ px_good := px_mem_good (px_t2 (i := 120) rfl) rfl
theorem wd_286 : Cond.constant "WreckField$Sheets" 41 40001 ∈ px_good := px_mem_good (px_t2 (i := 134) rfl) rfl
theorem wd_287 : Cond.methodLink "WreckField$Survey" 3 ⟨"java/lang/Object", "<init>", "()V"⟩ ∈ px_good := px_mem_good (px_t1 (i := 32) rfl) rfl
theorem wd_288 : Cond.fieldLink "WreckField$Survey" 9 "WreckField$Survey" "markCount" "I" ∈ px_good := px_mem_good (px_t1 (i := 33) rfl) rfl
theorem wd_289 : Cond.fieldLink "WreckField$Survey" 15 "WreckField$Survey" "tapeCount" "I" ∈ px_good := px_mem_good (px_t1 (i := 35) rfl) rfl
theorem wd_290 : Cond.fieldLink "WreckField$Survey" 18 "WreckField$Survey" "bar" "I" ∈ px_good := px_mem_good (px_t1 (i := 37) rfl) rfl
theorem wd_291 : Cond.fieldLink "WreckField$Survey" 21 "WreckField$Survey" "toldX" "[I" ∈ px_good := px_mem_good (px_t1 (i := 38) rfl) rfl
theorem wd_292 : Cond.fieldLink "WreckField$Survey" 25 "WreckField$Survey" "toldY" "[I" ∈ px_good := px_mem_good (px_t1 (i := 39) rfl) rfl
theorem wd_293 : Cond.arrayClass .boolean ∈ px_good := px_mem_good (px_t1 (i := 91) rfl) rfl
theorem wd_294 : Cond.fieldLink "WreckField$Survey" 28 "WreckField$Survey" "fixed" "[Z" ∈ px_good := px_mem_good (px_t1 (i := 40) rfl) rfl
theorem wd_295 : Cond.fieldLink "WreckField$Survey" 32 "WreckField$Survey" "firstMark" "[I" ∈ px_good := px_mem_good (px_t1 (i := 41) rfl) rfl
theorem wd_296 : Cond.fieldLink "WreckField$Survey" 35 "WreckField$Survey" "secondMark" "[I" ∈ px_good := px_mem_good (px_t1 (i := 42) rfl) rfl
theorem wd_297 : Cond.fieldLink "WreckField$Survey" 38 "WreckField$Survey" "lengths" "[I" ∈ px_good := px_mem_good (px_t1 (i := 43) rfl) rfl
theorem wd_298 : Cond.fieldLink "WreckField$Survey" 41 "WreckField$Survey" "rounds" "I" ∈ px_good := px_mem_good (px_t1 (i := 44) rfl) rfl
theorem wd_299 : Cond.fieldLink "WreckField$Survey" 44 "WreckField$Survey" "roundX" "[I" ∈ px_good := px_mem_good (px_t1 (i := 45) rfl) rfl
theorem wd_300 : Cond.fieldLink "WreckField$Survey" 47 "WreckField$Survey" "roundY" "[I" ∈ px_good := px_mem_good (px_t1 (i := 46) rfl) rfl
theorem wd_301 : Cond.fieldLink "WreckField$Survey" 50 "WreckField$Survey" "worstSize" "[I" ∈ px_good := px_mem_good (px_t1 (i := 47) rfl) rfl
theorem wd_302 : Cond.fieldLink "WreckField$Survey" 53 "WreckField$Survey" "outFrom" "[I" ∈ px_good := px_mem_good (px_t1 (i := 48) rfl) rfl
theorem wd_303 : Cond.fieldLink "WreckField$Survey" 56 "WreckField$Survey" "near" "I" ∈ px_good := px_mem_good (px_t1 (i := 49) rfl) rfl
theorem wd_304 : Cond.fieldLink "WreckField$Survey" 59 "WreckField$Survey" "nearX" "[I" ∈ px_good := px_mem_good (px_t1 (i := 50) rfl) rfl
theorem wd_305 : Cond.fieldLink "WreckField$Survey" 62 "WreckField$Survey" "nearY" "[I" ∈ px_good := px_mem_good (px_t1 (i := 51) rfl) rfl
theorem wd_306 : Cond.fieldLink "WreckField$Survey" 65 "WreckField$Survey" "nearLength" "[I" ∈ px_good := px_mem_good (px_t1 (i := 52) rfl) rfl
theorem wd_307 : Cond.code yX7_forgetRounds cX7_forgetRounds 2 none ∈ px_good := px_mem_good (px_t2 (i := 97) rfl) rfl
theorem wd_308 : Cond.methodLink "WreckField$Survey" 68 ⟨"WreckField$Survey", "forgetRounds", "()V"⟩ ∈ px_good := px_mem_good (px_t2 (i := 94) rfl) rfl
theorem wd_309 : Cond.instanceMethod ⟨"WreckField$Survey", "forgetRounds", "()V"⟩ ∈ px_good := px_mem_good (px_t2 (i := 96) rfl) rfl
theorem wd_310 : Cond.selects "WreckField$Survey" ⟨"WreckField$Survey", "forgetRounds", "()V"⟩ ⟨"WreckField$Survey", "forgetRounds", "()V"⟩ ∈ px_good := px_mem_good (px_sel (y := ⟨"WreckField$Survey", "forgetRounds", "()V"⟩) (n := 18) (px_p1 (i := 0) rfl)) rfl
theorem wd_311 : Cond.initialized "WreckField$Survey" ∈ px_good := px_mem_good (px_t1 (i := 2) rfl) rfl
theorem wd_312 : Cond.code yX7_hasMark cX7_hasMark 2 (some .boolean) ∈ px_good := px_mem_good (px_t2 (i := 109) rfl) rfl
theorem wd_313 : Cond.methodLink "WreckField$Survey" 71 ⟨"WreckField$Survey", "hasMark", "(I)Z"⟩ ∈ px_good := px_mem_good (px_t2 (i := 106) rfl) rfl
theorem wd_314 : Cond.instanceMethod ⟨"WreckField$Survey", "hasMark", "(I)Z"⟩ ∈ px_good := px_mem_good (px_t2 (i := 108) rfl) rfl
theorem wd_315 : Cond.selects "WreckField$Survey" ⟨"WreckField$Survey", "hasMark", "(I)Z"⟩ ⟨"WreckField$Survey", "hasMark", "(I)Z"⟩ ∈ px_good := px_mem_good (px_sel (y := ⟨"WreckField$Survey", "hasMark", "(I)Z"⟩) (n := 18) (px_p1 (i := 1) rfl)) rfl
theorem wd_316 : Cond.constantLong "WreckField$Survey" 75 (-4611686018427387904) ∈ px_good := px_mem_good (px_t2 (i := 155) rfl) rfl
theorem wd_317 : Cond.code yX7_fittedRound cX7_fittedRound 2 (some .int) ∈ px_good := px_mem_good (px_t2 (i := 159) rfl) rfl
theorem wd_318 : Cond.methodLink "WreckField$Survey" 77 ⟨"WreckField$Survey", "fittedRound", "()I"⟩ ∈ px_good := px_mem_good (px_t2 (i := 156) rfl) rfl
theorem wd_319 : Cond.instanceMethod ⟨"WreckField$Survey", "fittedRound", "()I"⟩ ∈ px_good := px_mem_good (px_t2 (i := 157) rfl) rfl
theorem wd_320 : Cond.selects "WreckField$Survey" ⟨"WreckField$Survey", "fittedRound", "()I"⟩ ⟨"WreckField$Survey", "fittedRound", "()I"⟩ ∈ px_good := px_mem_good (px_t2 (i := 158) rfl) rfl
theorem wd_321 : Cond.code yX7_isOut cX7_isOut 3 (some .boolean) ∈ px_good := px_mem_good (px_t2 (i := 179) rfl) rfl
theorem wd_322 : Cond.methodLink "WreckField$Survey" 81 ⟨"WreckField$Survey", "isOut", "(II)Z"⟩ ∈ px_good := px_mem_good (px_t2 (i := 176) rfl) rfl
theorem wd_323 : Cond.instanceMethod ⟨"WreckField$Survey", "isOut", "(II)Z"⟩ ∈ px_good := px_mem_good (px_t2 (i := 178) rfl) rfl
theorem wd_324 : Cond.selects "WreckField$Survey" ⟨"WreckField$Survey", "isOut", "(II)Z"⟩ ⟨"WreckField$Survey", "isOut", "(II)Z"⟩ ∈ px_good := px_mem_good (px_sel (y := ⟨"WreckField$Survey", "isOut", "(II)Z"⟩) (n := 18) (px_p1 (i := 7) rfl)) rfl
theorem wd_325 : Cond.code yX7_miss cX7_miss 5 (some .int) ∈ px_good := px_mem_good (px_t2 (i := 195) rfl) rfl
theorem wd_326 : Cond.methodLink "WreckField$Survey" 85 ⟨"WreckField$Survey", "miss", "(II)I"⟩ ∈ px_good := px_mem_good (px_t2 (i := 192) rfl) rfl
theorem wd_327 : Cond.instanceMethod ⟨"WreckField$Survey", "miss", "(II)I"⟩ ∈ px_good := px_mem_good (px_t2 (i := 194) rfl) rfl
theorem wd_328 : Cond.selects "WreckField$Survey" ⟨"WreckField$Survey", "miss", "(II)I"⟩ ⟨"WreckField$Survey", "miss", "(II)I"⟩ ∈ px_good := px_mem_good (px_sel (y := ⟨"WreckField$Survey", "miss", "(II)I"⟩) (n := 18) (px_p1 (i := 10) rfl)) rfl
theorem wd_329 : Cond.code yX7_fitIfNew cX7_fitIfNew 6 none ∈ px_good := px_mem_good (px_t2 (i := 163) rfl) rfl
theorem wd_330 : Cond.methodLink "WreckField$Survey" 89 ⟨"WreckField$Survey", "fitIfNew", "(I)V"⟩ ∈ px_good := px_mem_good (px_t2 (i := 160) rfl) rfl
theorem wd_331 : Cond.instanceMethod ⟨"WreckField$Survey", "fitIfNew", "(I)V"⟩ ∈ px_good := px_mem_good (px_t2 (i := 162) rfl) rfl
theorem wd_332 : Cond.selects "WreckField$Survey" ⟨"WreckField$Survey", "fitIfNew", "(I)V"⟩ ⟨"WreckField$Survey", "fitIfNew", "(I)V"⟩ ∈ px_good := px_mem_good (px_sel (y := ⟨"WreckField$Survey", "fitIfNew", "(I)V"⟩) (n := 18) (px_p1 (i := 3) rfl)) rfl
theorem wd_333 : Cond.code yX7_distance cX7_distance 7 (some .int) ∈ px_good := px_mem_good (px_t2 (i := 187) rfl) rfl
theorem wd_334 : Cond.methodLink "WreckField$Survey" 93 ⟨"WreckField$Survey", "distance", "(III)I"⟩ ∈ px_good := px_mem_good (px_t2 (i := 185) rfl) rfl
theorem wd_335 : Cond.static ⟨"WreckField$Survey", "distance", "(III)I"⟩ ∈ px_good := px_mem_good (px_t2 (i := 186) rfl) rfl
theorem wd_336 : Cond.code yX7_goToTold cX7_goToTold 3 none ∈ px_good := px_mem_good (px_t2 (i := 167) rfl) rfl
theorem wd_337 : Cond.methodLink "WreckField$Survey" 97 ⟨"WreckField$Survey", "goToTold", "(I)V"⟩ ∈ px_good := px_mem_good (px_t2 (i := 164) rfl) rfl
theorem wd_338 : Cond.instanceMethod ⟨"WreckField$Survey", "goToTold", "(I)V"⟩ ∈ px_good := px_mem_good (px_t2 (i := 166) rfl) rfl
theorem wd_339 : Cond.selects "WreckField$Survey" ⟨"WreckField$Survey", "goToTold", "(I)V"⟩ ⟨"WreckField$Survey", "goToTold", "(I)V"⟩ ∈ px_good := px_mem_good (px_sel (y := ⟨"WreckField$Survey", "goToTold", "(I)V"⟩) (n := 18) (px_p1 (i := 4) rfl)) rfl
theorem wd_340 : Cond.code yX7_moveMark cX7_moveMark 17 (some .boolean) ∈ px_good := px_mem_good (px_t2 (i := 171) rfl) rfl
theorem wd_341 : Cond.methodLink "WreckField$Survey" 100 ⟨"WreckField$Survey", "moveMark", "(III)Z"⟩ ∈ px_good := px_mem_good (px_t2 (i := 168) rfl) rfl
theorem wd_342 : Cond.instanceMethod ⟨"WreckField$Survey", "moveMark", "(III)Z"⟩ ∈ px_good := px_mem_good (px_t2 (i := 170) rfl) rfl
theorem wd_343 : Cond.selects "WreckField$Survey" ⟨"WreckField$Survey", "moveMark", "(III)Z"⟩ ⟨"WreckField$Survey", "moveMark", "(III)Z"⟩ ∈ px_good := px_mem_good (px_sel (y := ⟨"WreckField$Survey", "moveMark", "(III)Z"⟩) (n := 18) (px_p1 (i := 5) rfl)) rfl
theorem wd_344 : Cond.code yX7_judge cX7_judge 6 none ∈ px_good := px_mem_good (px_t2 (i := 191) rfl) rfl
theorem wd_345 : Cond.methodLink "WreckField$Survey" 104 ⟨"WreckField$Survey", "judge", "(I)V"⟩ ∈ px_good := px_mem_good (px_t2 (i := 188) rfl) rfl
theorem wd_346 : Cond.instanceMethod ⟨"WreckField$Survey", "judge", "(I)V"⟩ ∈ px_good := px_mem_good (px_t2 (i := 190) rfl) rfl
theorem wd_347 : Cond.selects "WreckField$Survey" ⟨"WreckField$Survey", "judge", "(I)V"⟩ ⟨"WreckField$Survey", "judge", "(I)V"⟩ ∈ px_good := px_mem_good (px_sel (y := ⟨"WreckField$Survey", "judge", "(I)V"⟩) (n := 18) (px_p1 (i := 9) rfl)) rfl
theorem wd_348 : Cond.code yX7_gatherNear cX7_gatherNear 6 none ∈ px_good := px_mem_good (px_t2 (i := 175) rfl) rfl
theorem wd_349 : Cond.methodLink "WreckField$Survey" 107 ⟨"WreckField$Survey", "gatherNear", "(II)V"⟩ ∈ px_good := px_mem_good (px_t2 (i := 172) rfl) rfl
theorem wd_350 : Cond.instanceMethod ⟨"WreckField$Survey", "gatherNear", "(II)V"⟩ ∈ px_good := px_mem_good (px_t2 (i := 174) rfl) rfl
theorem wd_351 : Cond.selects "WreckField$Survey" ⟨"WreckField$Survey", "gatherNear", "(II)V"⟩ ⟨"WreckField$Survey", "gatherNear", "(II)V"⟩ ∈ px_good := px_mem_good (px_sel (y := ⟨"WreckField$Survey", "gatherNear", "(II)V"⟩) (n := 18) (px_p1 (i := 6) rfl)) rfl
theorem wd_352 : Cond.constantLong "WreckField$Survey" 111 4611686018427387904 ∈ px_good := px_mem_good (px_t2 (i := 180) rfl) rfl
theorem wd_353 : Cond.code yX7_nearSquares cX7_nearSquares 10 (some .long) ∈ px_good := px_mem_good (px_t2 (i := 184) rfl) rfl
theorem wd_354 : Cond.methodLink "WreckField$Survey" 113 ⟨"WreckField$Survey", "nearSquares", "(IIJ)J"⟩ ∈ px_good := px_mem_good (px_t2 (i := 181) rfl) rfl
theorem wd_355 : Cond.instanceMethod ⟨"WreckField$Survey", "nearSquares", "(IIJ)J"⟩ ∈ px_good := px_mem_good (px_t2 (i := 183) rfl) rfl
theorem wd_356 : Cond.selects "WreckField$Survey" ⟨"WreckField$Survey", "nearSquares", "(IIJ)J"⟩ ⟨"WreckField$Survey", "nearSquares", "(IIJ)J"⟩ ∈ px_good := px_mem_good (px_sel (y := ⟨"WreckField$Survey", "nearSquares", "(IIJ)J"⟩) (n := 18) (px_p1 (i := 8) rfl)) rfl
theorem wd_357 : Cond.methodLink "WreckField$Survey" 117 ⟨"java/lang/Math", "abs", "(I)I"⟩ ∈ px_good := px_mem_good (px_t2 (i := 196) rfl) rfl
theorem wd_358 : Cond.static ⟨"java/lang/Math", "abs", "(I)I"⟩ ∈ px_good := px_mem_good (px_t2 (i := 197) rfl) rfl
theorem wd_359 : Cond.code Lib.Math.abs.name Lib.Math.abs.code 1 (some .int) ∈ px_good := px_mem_good (px_t2 (i := 198) rfl) rfl
theorem wd_360 : Cond.methodLink "WreckField$Timbers" 3 ⟨"java/lang/Object", "<init>", "()V"⟩ ∈ px_good := px_mem_good (px_t1 (i := 217) rfl) rfl
theorem wd_361 : Cond.fieldLink "WreckField$Timbers" 11 "WreckField$Timbers" "sums" "[I" ∈ px_good := px_mem_good (px_t1 (i := 218) rfl) rfl
theorem wd_362 : Cond.fieldLink "WreckField$Timbers" 15 "WreckField$Timbers" "greatest" "I" ∈ px_good := px_mem_good (px_t1 (i := 219) rfl) rfl
theorem wd_363 : Cond.fieldLink "WreckField$Timbers" 19 "WreckField$Timbers" "shift" "I" ∈ px_good := px_mem_good (px_t1 (i := 221) rfl) rfl
theorem wd_364 : Cond.fieldLink "WreckField$Timbers" 22 "WreckField$Find" "holeCount" "I" ∈ px_good := px_mem_good (px_t3 (i := 0) rfl) rfl
theorem wd_365 : Cond.fieldLink "WreckField$Timbers" 27 "WreckField$Find" "holes" "[I" ∈ px_good := px_mem_good (px_t3 (i := 2) rfl) rfl
theorem wd_366 : Cond.code yX8_takeIfGreater cX8_takeIfGreater 2 none ∈ px_good := px_mem_good (px_t4 (i := 222) rfl) rfl
theorem wd_367 : Cond.methodLink "WreckField$Timbers" 30 ⟨"WreckField$Timbers", "takeIfGreater", "(I)V"⟩ ∈ px_good := px_mem_good (px_t4 (i := 219) rfl) rfl
theorem wd_368 : Cond.instanceMethod ⟨"WreckField$Timbers", "takeIfGreater", "(I)V"⟩ ∈ px_good := px_mem_good (px_t4 (i := 221) rfl) rfl
theorem wd_369 : Cond.selects "WreckField$Timbers" ⟨"WreckField$Timbers", "takeIfGreater", "(I)V"⟩ ⟨"WreckField$Timbers", "takeIfGreater", "(I)V"⟩ ∈ px_good := px_mem_good (px_sel (y := ⟨"WreckField$Timbers", "takeIfGreater", "(I)V"⟩) (n := 3) (px_p3 (i := 3) rfl)) rfl
theorem wd_370 : Cond.initialized "WreckField$Timbers" ∈ px_good := px_mem_good (px_t1 (i := 7) rfl) rfl
theorem wd_371 : Cond.code yX10_timberAt cX10_timberAt 3 (some (.object "WreckField$Find")) ∈ px_good := px_mem_good (px_t3 (i := 35) rfl) rfl
theorem wd_372 : Cond.methodLink "WreckField$Timbers" 34 ⟨"WreckField$Yard", "timberAt", "(I)LWreckField$Find;"⟩ ∈ px_good := px_mem_good (px_t4 (i := 231) rfl) rfl
theorem wd_373 : Cond.instanceMethod ⟨"WreckField$Yard", "timberAt", "(I)LWreckField$Find;"⟩ ∈ px_good := px_mem_good (px_t3 (i := 33) rfl) rfl
theorem wd_374 : Cond.selects "WreckField$Yard" ⟨"WreckField$Yard", "timberAt", "(I)LWreckField$Find;"⟩ ⟨"WreckField$Yard", "timberAt", "(I)LWreckField$Find;"⟩ ∈ px_good := px_mem_good (px_t3 (i := 34) rfl) rfl
theorem wd_375 : Cond.initialized "WreckField$Yard" ∈ px_good := px_mem_good (px_t1 (i := 3) rfl) rfl
theorem wd_376 : Cond.fieldLink "WreckField$Timbers" 40 "WreckField$Yard" "findCount" "I" ∈ px_good := px_mem_good (px_t1 (i := 101) rfl) rfl
theorem wd_377 : Cond.code yX8_match cX8_match 6 none ∈ px_good := px_mem_good (px_t4 (i := 218) rfl) rfl
theorem wd_378 : Cond.methodLink "WreckField$Timbers" 43 ⟨"WreckField$Timbers", "match", "(LWreckField$Find;LWreckField$Find;)V"⟩ ∈ px_good := px_mem_good (px_t4 (i := 232) rfl) rfl
theorem wd_379 : Cond.instanceMethod ⟨"WreckField$Timbers", "match", "(LWreckField$Find;LWreckField$Find;)V"⟩ ∈ px_good := px_mem_good (px_t4 (i := 216) rfl) rfl
theorem wd_380 : Cond.selects "WreckField$Timbers" ⟨"WreckField$Timbers", "match", "(LWreckField$Find;LWreckField$Find;)V"⟩ ⟨"WreckField$Timbers", "match", "(LWreckField$Find;LWreckField$Find;)V"⟩ ∈ px_good := px_mem_good (px_t4 (i := 217) rfl) rfl
theorem wd_381 : Cond.methodLink "WreckField$Wreck" 3 ⟨"java/lang/Object", "<init>", "()V"⟩ ∈ px_good := px_mem_good (px_t2 (i := 35) rfl) rfl
theorem wd_382 : Cond.fieldLink "WreckField$Wreck" 9 "WreckField$Wreck" "open" "I" ∈ px_good := px_mem_good (px_t2 (i := 36) rfl) rfl
theorem wd_383 : Cond.fieldLink "WreckField$Wreck" 15 "WreckField$Wreck" "roll" "I" ∈ px_good := px_mem_good (px_t2 (i := 37) rfl) rfl
theorem wd_384 : Cond.code yX9_placeOn cX9_placeOn 6 (some .int) ∈ px_good := px_mem_good (px_t5 (i := 73) rfl) rfl
theorem wd_385 : Cond.methodLink "WreckField$Wreck" 18 ⟨"WreckField$Wreck", "placeOn", "(ILWreckField$Find;)I"⟩ ∈ px_good := px_mem_good (px_t5 (i := 70) rfl) rfl
theorem wd_386 : Cond.instanceMethod ⟨"WreckField$Wreck", "placeOn", "(ILWreckField$Find;)I"⟩ ∈ px_good := px_mem_good (px_t5 (i := 72) rfl) rfl
theorem wd_387 : Cond.selects "WreckField$Wreck" ⟨"WreckField$Wreck", "placeOn", "(ILWreckField$Find;)I"⟩ ⟨"WreckField$Wreck", "placeOn", "(ILWreckField$Find;)I"⟩ ∈ px_good := px_mem_good (px_sel (y := ⟨"WreckField$Wreck", "placeOn", "(ILWreckField$Find;)I"⟩) (n := 2) (px_p3 (i := 7) rfl)) rfl
theorem wd_388 : Cond.initialized "WreckField$Wreck" ∈ px_good := px_mem_good (px_t1 (i := 9) rfl) rfl
theorem wd_389 : Cond.code yX9_decksDown cX9_decksDown 4 (some .int) ∈ px_good := px_mem_good (px_t5 (i := 77) rfl) rfl
theorem wd_390 : Cond.methodLink "WreckField$Wreck" 22 ⟨"WreckField$Wreck", "decksDown", "(I)I"⟩ ∈ px_good := px_mem_good (px_t5 (i := 74) rfl) rfl
theorem wd_391 : Cond.instanceMethod ⟨"WreckField$Wreck", "decksDown", "(I)I"⟩ ∈ px_good := px_mem_good (px_t5 (i := 76) rfl) rfl
theorem wd_392 : Cond.selects "WreckField$Wreck" ⟨"WreckField$Wreck", "decksDown", "(I)I"⟩ ⟨"WreckField$Wreck", "decksDown", "(I)I"⟩ ∈ px_good := px_mem_good (px_sel (y := ⟨"WreckField$Wreck", "decksDown", "(I)I"⟩) (n := 2) (px_p3 (i := 8) rfl)) rfl
theorem wd_393 : Cond.methodLink "WreckField$Wreck" 26 ⟨"WreckField$Find", "x", "()I"⟩ ∈ px_good := px_mem_good (px_t5 (i := 78) rfl) rfl
theorem wd_394 : Cond.methodLink "WreckField$Wreck" 32 ⟨"java/lang/Math", "min", "(II)I"⟩ ∈ px_good := px_mem_good (px_t5 (i := 79) rfl) rfl
theorem wd_395 : Cond.fieldLink "WreckField$Wreck" 38 "WreckField$Find" "layer" "I" ∈ px_good := px_mem_good (px_t2 (i := 234) rfl) rfl
theorem wd_396 : Cond.methodLink "WreckField$Yard" 3 ⟨"java/lang/Object", "<init>", "()V"⟩ ∈ px_good := px_mem_good (px_t1 (i := 97) rfl) rfl
theorem wd_397 : Cond.fieldLink "WreckField$Yard" 9 "WreckField$Yard" "findCount" "I" ∈ px_good := px_mem_good (px_t1 (i := 100) rfl) rfl
theorem wd_398 : Cond.fieldLink "WreckField$Yard" 15 "WreckField$Yard" "tankCount" "I" ∈ px_good := px_mem_good (px_t1 (i := 103) rfl) rfl
theorem wd_399 : Cond.classLink "WreckField$Yard" 18 "WreckField$Find" ∈ px_good := px_mem_good (px_t1 (i := 98) rfl) rfl
theorem wd_400 : Cond.fieldLink "WreckField$Yard" 20 "WreckField$Yard" "finds" "[LWreckField$Find;" ∈ px_good := px_mem_good (px_t1 (i := 105) rfl) rfl
theorem wd_401 : Cond.fieldLink "WreckField$Yard" 24 "WreckField$Yard" "tankKind" "[I" ∈ px_good := px_mem_good (px_t1 (i := 106) rfl) rfl
theorem wd_402 : Cond.fieldLink "WreckField$Yard" 28 "WreckField$Yard" "tankRoom" "[I" ∈ px_good := px_mem_good (px_t1 (i := 107) rfl) rfl
theorem wd_403 : Cond.instantiable "WreckField$Find" 9 ∈ px_good := px_mem_good (px_t2 (i := 223) rfl) rfl
theorem wd_404 : Cond.code yX2_init cX2_init 5 none ∈ px_good := px_mem_good (px_t2 (i := 226) rfl) rfl
theorem wd_405 : Cond.instanceMethod ⟨"WreckField$Find", "<init>", "(IIII)V"⟩ ∈ px_good := px_mem_good (px_t2 (i := 225) rfl) rfl
theorem wd_406 : Cond.methodLink "WreckField$Yard" 31 ⟨"WreckField$Find", "<init>", "(IIII)V"⟩ ∈ px_good := px_mem_good (px_t2 (i := 224) rfl) rfl
theorem wd_407 : Cond.code yX10_findAt cX10_findAt 2 (some (.object "WreckField$Find")) ∈ px_good := px_mem_good (px_t3 (i := 39) rfl) rfl
theorem wd_408 : Cond.methodLink "WreckField$Yard" 34 ⟨"WreckField$Yard", "findAt", "(I)LWreckField$Find;"⟩ ∈ px_good := px_mem_good (px_t3 (i := 36) rfl) rfl
theorem wd_409 : Cond.instanceMethod ⟨"WreckField$Yard", "findAt", "(I)LWreckField$Find;"⟩ ∈ px_good := px_mem_good (px_t3 (i := 37) rfl) rfl
theorem wd_410 : Cond.selects "WreckField$Yard" ⟨"WreckField$Yard", "findAt", "(I)LWreckField$Find;"⟩ ⟨"WreckField$Yard", "findAt", "(I)LWreckField$Find;"⟩ ∈ px_good := px_mem_good (px_t3 (i := 38) rfl) rfl
theorem wd_411 : Cond.fieldLink "WreckField$Yard" 38 "WreckField$Find" "kind" "I" ∈ px_good := px_mem_good (px_t2 (i := 229) rfl) rfl
theorem wd_412 : Cond.fieldLink "WreckField$Yard" 41 "WreckField$Find" "isInField" "Z" ∈ px_good := px_mem_good (px_t3 (i := 4) rfl) rfl
theorem wd_413 : Cond.code yX10_hasTank cX10_hasTank 2 (some .boolean) ∈ px_good := px_mem_good (px_t3 (i := 78) rfl) rfl
theorem wd_414 : Cond.methodLink "WreckField$Yard" 45 ⟨"WreckField$Yard", "hasTank", "(I)Z"⟩ ∈ px_good := px_mem_good (px_t3 (i := 75) rfl) rfl
theorem wd_415 : Cond.instanceMethod ⟨"WreckField$Yard", "hasTank", "(I)Z"⟩ ∈ px_good := px_mem_good (px_t3 (i := 76) rfl) rfl
theorem wd_416 : Cond.selects "WreckField$Yard" ⟨"WreckField$Yard", "hasTank", "(I)Z"⟩ ⟨"WreckField$Yard", "hasTank", "(I)Z"⟩ ∈ px_good := px_mem_good (px_t3 (i := 77) rfl) rfl
theorem wd_417 : Cond.code yX10_sizesIn cX10_sizesIn 5 (some .int) ∈ px_good := px_mem_good (px_t3 (i := 82) rfl) rfl
theorem wd_418 : Cond.methodLink "WreckField$Yard" 49 ⟨"WreckField$Yard", "sizesIn", "(I)I"⟩ ∈ px_good := px_mem_good (px_t3 (i := 79) rfl) rfl
theorem wd_419 : Cond.instanceMethod ⟨"WreckField$Yard", "sizesIn", "(I)I"⟩ ∈ px_good := px_mem_good (px_t3 (i := 81) rfl) rfl
theorem wd_420 : Cond.selects "WreckField$Yard" ⟨"WreckField$Yard", "sizesIn", "(I)I"⟩ ⟨"WreckField$Yard", "sizesIn", "(I)I"⟩ ∈ px_good := px_mem_good (px_sel (y := ⟨"WreckField$Yard", "sizesIn", "(I)I"⟩) (n := 5) (px_p1 (i := 11) rfl)) rfl
theorem wd_421 : Cond.code yX10_findsIn cX10_findsIn 5 (some .int) ∈ px_good := px_mem_good (px_t3 (i := 86) rfl) rfl
theorem wd_422 : Cond.methodLink "WreckField$Yard" 53 ⟨"WreckField$Yard", "findsIn", "(I)I"⟩ ∈ px_good := px_mem_good (px_t3 (i := 83) rfl) rfl
theorem wd_423 : Cond.instanceMethod ⟨"WreckField$Yard", "findsIn", "(I)I"⟩ ∈ px_good := px_mem_good (px_t3 (i := 85) rfl) rfl
theorem wd_424 : Cond.selects "WreckField$Yard" ⟨"WreckField$Yard", "findsIn", "(I)I"⟩ ⟨"WreckField$Yard", "findsIn", "(I)I"⟩ ∈ px_good := px_mem_good (px_sel (y := ⟨"WreckField$Yard", "findsIn", "(I)I"⟩) (n := 5) (px_p1 (i := 12) rfl)) rfl
theorem wd_425 : Cond.fieldLink "WreckField$Yard" 56 "WreckField$Find" "tank" "I" ∈ px_good := px_mem_good (px_t3 (i := 6) rfl) rfl
theorem wd_426 : Cond.fieldLink "WreckField$Yard" 59 "WreckField$Find" "size" "I" ∈ px_good := px_mem_good (px_t2 (i := 238) rfl) rfl
theorem wd_427 : Cond.code yX2_isUnder cX2_isUnder 4 (some .boolean) ∈ px_good := px_mem_good (px_t3 (i := 106) rfl) rfl
theorem wd_428 : Cond.methodLink "WreckField$Yard" 62 ⟨"WreckField$Find", "isUnder", "(I)Z"⟩ ∈ px_good := px_mem_good (px_t3 (i := 103) rfl) rfl
theorem wd_429 : Cond.instanceMethod ⟨"WreckField$Find", "isUnder", "(I)Z"⟩ ∈ px_good := px_mem_good (px_t3 (i := 104) rfl) rfl
theorem wd_430 : Cond.selects "WreckField$Find" ⟨"WreckField$Find", "isUnder", "(I)Z"⟩ ⟨"WreckField$Find", "isUnder", "(I)Z"⟩ ∈ px_good := px_mem_good (px_t3 (i := 105) rfl) rfl
theorem wd_431 : Cond.methodLink "WreckField" 3 ⟨"java/lang/Object", "<init>", "()V"⟩ ∈ px_good := px_mem_good (px_t1 (i := 24) rfl) rfl
theorem wd_432 : Cond.classLink "WreckField" 9 "WreckField$Survey" ∈ px_good := px_mem_good (px_t1 (i := 27) rfl) rfl
theorem wd_433 : Cond.instantiable "WreckField$Survey" 18 ∈ px_good := px_mem_good (px_t1 (i := 28) rfl) rfl
theorem wd_434 : Cond.code yX7_init cX7_init 1 none ∈ px_good := px_mem_good (px_t1 (i := 31) rfl) rfl
theorem wd_435 : Cond.instanceMethod ⟨"WreckField$Survey", "<init>", "()V"⟩ ∈ px_good := px_mem_good (px_t1 (i := 30) rfl) rfl
theorem wd_436 : Cond.fieldLink "WreckField" 12 "WreckField" "survey" "LWreckField$Survey;" ∈ px_good := px_mem_good (px_t2 (i := 61) rfl) rfl
theorem wd_437 : Cond.classLink "WreckField" 16 "WreckField$Yard" ∈ px_good := px_mem_good (px_t1 (i := 92) rfl) rfl
theorem wd_438 : Cond.instantiable "WreckField$Yard" 5 ∈ px_good := px_mem_good (px_t1 (i := 93) rfl) rfl
theorem wd_439 : Cond.code yX10_init cX10_init 1 none ∈ px_good := px_mem_good (px_t1 (i := 96) rfl) rfl
theorem wd_440 : Cond.instanceMethod ⟨"WreckField$Yard", "<init>", "()V"⟩ ∈ px_good := px_mem_good (px_t1 (i := 95) rfl) rfl
theorem wd_441 : Cond.fieldLink "WreckField" 19 "WreckField" "yard" "LWreckField$Yard;" ∈ px_good := px_mem_good (px_t2 (i := 62) rfl) rfl
theorem wd_442 : Cond.classLink "WreckField" 23 "WreckField$DiveLog" ∈ px_good := px_mem_good (px_t1 (i := 119) rfl) rfl
theorem wd_443 : Cond.instantiable "WreckField$DiveLog" 7 ∈ px_good := px_mem_good (px_t1 (i := 120) rfl) rfl
theorem wd_444 : Cond.code yX1_init cX1_init 1 none ∈ px_good := px_mem_good (px_t1 (i := 123) rfl) rfl
theorem wd_445 : Cond.instanceMethod ⟨"WreckField$DiveLog", "<init>", "()V"⟩ ∈ px_good := px_mem_good (px_t1 (i := 122) rfl) rfl
theorem wd_446 : Cond.fieldLink "WreckField" 26 "WreckField" "log" "LWreckField$DiveLog;" ∈ px_good := px_mem_good (px_t2 (i := 63) rfl) rfl
theorem wd_447 : Cond.classLink "WreckField" 30 "WreckField$RuleReader" ∈ px_good := px_mem_good (px_t1 (i := 152) rfl) rfl
theorem wd_448 : Cond.instantiable "WreckField$RuleReader" 8 ∈ px_good := px_mem_good (px_t1 (i := 153) rfl) rfl
theorem wd_449 : Cond.code yX5_init cX5_init 1 none ∈ px_good := px_mem_good (px_t1 (i := 156) rfl) rfl
theorem wd_450 : Cond.instanceMethod ⟨"WreckField$RuleReader", "<init>", "()V"⟩ ∈ px_good := px_mem_good (px_t1 (i := 155) rfl) rfl
theorem wd_451 : Cond.fieldLink "WreckField" 33 "WreckField" "reader" "LWreckField$RuleReader;" ∈ px_good := px_mem_good (px_t2 (i := 64) rfl) rfl
theorem wd_452 : Cond.classLink "WreckField" 37 "WreckField$Timbers" ∈ px_good := px_mem_good (px_t1 (i := 212) rfl) rfl
theorem wd_453 : Cond.instantiable "WreckField$Timbers" 3 ∈ px_good := px_mem_good (px_t1 (i := 213) rfl) rfl
theorem wd_454 : Cond.code yX8_init cX8_init 1 none ∈ px_good := px_mem_good (px_t1 (i := 216) rfl) rfl
theorem wd_455 : Cond.instanceMethod ⟨"WreckField$Timbers", "<init>", "()V"⟩ ∈ px_good := px_mem_good (px_t1 (i := 215) rfl) rfl
theorem wd_456 : Cond.fieldLink "WreckField" 40 "WreckField" "timbers" "LWreckField$Timbers;" ∈ px_good := px_mem_good (px_t2 (i := 65) rfl) rfl
theorem wd_457 : Cond.classLink "WreckField" 44 "WreckField$Planner" ∈ px_good := px_mem_good (px_t1 (i := 230) rfl) rfl
theorem wd_458 : Cond.instantiable "WreckField$Planner" 10 ∈ px_good := px_mem_good (px_t1 (i := 231) rfl) rfl
theorem wd_459 : Cond.code yX3_init cX3_init 1 none ∈ px_good := px_mem_good (px_t1 (i := 234) rfl) rfl
theorem wd_460 : Cond.instanceMethod ⟨"WreckField$Planner", "<init>", "()V"⟩ ∈ px_good := px_mem_good (px_t1 (i := 233) rfl) rfl
theorem wd_461 : Cond.fieldLink "WreckField" 47 "WreckField" "planner" "LWreckField$Planner;" ∈ px_good := px_mem_good (px_t2 (i := 66) rfl) rfl
theorem wd_462 : Cond.classLink "WreckField" 51 "WreckField$Wreck" ∈ px_good := px_mem_good (px_t2 (i := 30) rfl) rfl
theorem wd_463 : Cond.instantiable "WreckField$Wreck" 2 ∈ px_good := px_mem_good (px_t2 (i := 31) rfl) rfl
theorem wd_464 : Cond.code yX9_init cX9_init 1 none ∈ px_good := px_mem_good (px_t2 (i := 34) rfl) rfl
theorem wd_465 : Cond.instanceMethod ⟨"WreckField$Wreck", "<init>", "()V"⟩ ∈ px_good := px_mem_good (px_t2 (i := 33) rfl) rfl
theorem wd_466 : Cond.fieldLink "WreckField" 54 "WreckField" "wreck" "LWreckField$Wreck;" ∈ px_good := px_mem_good (px_t2 (i := 67) rfl) rfl
theorem wd_467 : Cond.classLink "WreckField" 58 "WreckField$Sheets" ∈ px_good := px_mem_good (px_t2 (i := 43) rfl) rfl
theorem wd_468 : Cond.instantiable "WreckField$Sheets" 3 ∈ px_good := px_mem_good (px_t2 (i := 44) rfl) rfl
theorem wd_469 : Cond.code yX6_init cX6_init 1 none ∈ px_good := px_mem_good (px_t2 (i := 47) rfl) rfl
theorem wd_470 : Cond.instanceMethod ⟨"WreckField$Sheets", "<init>", "()V"⟩ ∈ px_good := px_mem_good (px_t2 (i := 46) rfl) rfl
theorem wd_471 : Cond.fieldLink "WreckField" 61 "WreckField" "sheets" "LWreckField$Sheets;" ∈ px_good := px_mem_good (px_t2 (i := 68) rfl) rfl
theorem wd_472 : Cond.code yX7_addMark cX7_addMark 4 (some .int) ∈ px_good := px_mem_good (px_t2 (i := 93) rfl) rfl
theorem wd_473 : Cond.methodLink "WreckField" 65 ⟨"WreckField$Survey", "addMark", "(IIZ)I"⟩ ∈ px_good := px_mem_good (px_t2 (i := 90) rfl) rfl
theorem wd_474 : Cond.instanceMethod ⟨"WreckField$Survey", "addMark", "(IIZ)I"⟩ ∈ px_good := px_mem_good (px_t2 (i := 91) rfl) rfl
theorem wd_475 : Cond.selects "WreckField$Survey" ⟨"WreckField$Survey", "addMark", "(IIZ)I"⟩ ⟨"WreckField$Survey", "addMark", "(IIZ)I"⟩ ∈ px_good := px_mem_good (px_t2 (i := 92) rfl) rfl
theorem wd_476 : Cond.code yX7_addTape cX7_addTape 4 (some .int) ∈ px_good := px_mem_good (px_t2 (i := 105) rfl) rfl
theorem wd_477 : Cond.methodLink "WreckField" 69 ⟨"WreckField$Survey", "addTape", "(III)I"⟩ ∈ px_good := px_mem_good (px_t2 (i := 102) rfl) rfl
theorem wd_478 : Cond.instanceMethod ⟨"WreckField$Survey", "addTape", "(III)I"⟩ ∈ px_good := px_mem_good (px_t2 (i := 103) rfl) rfl
theorem wd_479 : Cond.selects "WreckField$Survey" ⟨"WreckField$Survey", "addTape", "(III)I"⟩ ⟨"WreckField$Survey", "addTape", "(III)I"⟩ ∈ px_good := px_mem_good (px_t2 (i := 104) rfl) rfl
theorem wd_480 : Cond.methodLink "WreckField" 73 ⟨"WreckField$Sheets", "has", "(I)Z"⟩ ∈ px_good := px_mem_good (px_t2 (i := 114) rfl) rfl
theorem wd_481 : Cond.methodLink "WreckField" 77 ⟨"WreckField$Sheets", "floatsRefusal", "(I)I"⟩ ∈ px_good := px_mem_good (px_t2 (i := 118) rfl) rfl
theorem wd_482 : Cond.methodLink "WreckField" 81 ⟨"WreckField$Sheets", "holds", "(II)Z"⟩ ∈ px_good := px_mem_good (px_t2 (i := 122) rfl) rfl
theorem wd_483 : Cond.code yX11_tapeFrom cX11_tapeFrom 3 (some .int) ∈ px_good := px_mem_good (px_t2 (i := 129) rfl) rfl
theorem wd_484 : Cond.methodLink "WreckField" 85 ⟨"WreckField", "tapeFrom", "(II)I"⟩ ∈ px_good := px_mem_good (px_t2 (i := 126) rfl) rfl
theorem wd_485 : Cond.instanceMethod ⟨"WreckField", "tapeFrom", "(II)I"⟩ ∈ px_good := px_mem_good (px_t2 (i := 128) rfl) rfl
theorem wd_486 : Cond.selects "WreckField" ⟨"WreckField", "tapeFrom", "(II)I"⟩ ⟨"WreckField", "tapeFrom", "(II)I"⟩ ∈ px_good := px_mem_good (px_sel (y := ⟨"WreckField", "tapeFrom", "(II)I"⟩) (n := 8) (px_p1 (i := 2) rfl)) rfl
theorem wd_487 : Cond.initialized "WreckField" ∈ px_good := px_mem_good (px_t1 (i := 1) rfl) rfl
theorem wd_488 : Cond.fieldLink "WreckField" 89 "WreckField$Survey" "tapeCount" "I" ∈ px_good := px_mem_good (px_t1 (i := 36) rfl) rfl
theorem wd_489 : Cond.code yX6_isNumber cX6_isNumber 3 (some .boolean) ∈ px_good := px_mem_good (px_t2 (i := 133) rfl) rfl
theorem wd_490 : Cond.methodLink "WreckField" 93 ⟨"WreckField$Sheets", "isNumber", "(II)Z"⟩ ∈ px_good := px_mem_good (px_t2 (i := 130) rfl) rfl
theorem wd_491 : Cond.instanceMethod ⟨"WreckField$Sheets", "isNumber", "(II)Z"⟩ ∈ px_good := px_mem_good (px_t2 (i := 131) rfl) rfl
theorem wd_492 : Cond.selects "WreckField$Sheets" ⟨"WreckField$Sheets", "isNumber", "(II)Z"⟩ ⟨"WreckField$Sheets", "isNumber", "(II)Z"⟩ ∈ px_good := px_mem_good (px_t2 (i := 132) rfl) rfl
theorem wd_493 : Cond.code yX6_whole cX6_whole 3 (some .int) ∈ px_good := px_mem_good (px_t2 (i := 138) rfl) rfl
theorem wd_494 : Cond.methodLink "WreckField" 96 ⟨"WreckField$Sheets", "whole", "(II)I"⟩ ∈ px_good := px_mem_good (px_t2 (i := 135) rfl) rfl
theorem wd_495 : Cond.instanceMethod ⟨"WreckField$Sheets", "whole", "(II)I"⟩ ∈ px_good := px_mem_good (px_t2 (i := 136) rfl) rfl
theorem wd_496 : Cond.selects "WreckField$Sheets" ⟨"WreckField$Sheets", "whole", "(II)I"⟩ ⟨"WreckField$Sheets", "whole", "(II)I"⟩ ∈ px_good := px_mem_good (px_t2 (i := 137) rfl) rfl
theorem wd_497 : Cond.code yX7_changeBar cX7_changeBar 3 (some .int) ∈ px_good := px_mem_good (px_t2 (i := 146) rfl) rfl
theorem wd_498 : Cond.methodLink "WreckField" 99 ⟨"WreckField$Survey", "changeBar", "(I)I"⟩ ∈ px_good := px_mem_good (px_t2 (i := 143) rfl) rfl
theorem wd_499 : Cond.instanceMethod ⟨"WreckField$Survey", "changeBar", "(I)I"⟩ ∈ px_good := px_mem_good (px_t2 (i := 144) rfl) rfl
theorem wd_500 : Cond.selects "WreckField$Survey" ⟨"WreckField$Survey", "changeBar", "(I)I"⟩ ⟨"WreckField$Survey", "changeBar", "(I)I"⟩ ∈ px_good := px_mem_good (px_t2 (i := 145) rfl) rfl
theorem wd_501 : Cond.code yX7_markTold cX7_markTold 4 (some .long) ∈ px_good := px_mem_good (px_t2 (i := 154) rfl) rfl
theorem wd_502 : Cond.methodLink "WreckField" 102 ⟨"WreckField$Survey", "markTold", "(II)J"⟩ ∈ px_good := px_mem_good (px_t2 (i := 151) rfl) rfl
theorem wd_503 : Cond.instanceMethod ⟨"WreckField$Survey", "markTold", "(II)J"⟩ ∈ px_good := px_mem_good (px_t2 (i := 152) rfl) rfl
theorem wd_504 : Cond.selects "WreckField$Survey" ⟨"WreckField$Survey", "markTold", "(II)J"⟩ ⟨"WreckField$Survey", "markTold", "(II)J"⟩ ∈ px_good := px_mem_good (px_t2 (i := 153) rfl) rfl
theorem wd_505 : Cond.code yX7_tapeItem cX7_tapeItem 3 (some .long) ∈ px_good := px_mem_good (px_t2 (i := 206) rfl) rfl
theorem wd_506 : Cond.methodLink "WreckField" 106 ⟨"WreckField$Survey", "tapeItem", "(II)J"⟩ ∈ px_good := px_mem_good (px_t2 (i := 203) rfl) rfl
theorem wd_507 : Cond.instanceMethod ⟨"WreckField$Survey", "tapeItem", "(II)J"⟩ ∈ px_good := px_mem_good (px_t2 (i := 204) rfl) rfl
theorem wd_508 : Cond.selects "WreckField$Survey" ⟨"WreckField$Survey", "tapeItem", "(II)J"⟩ ⟨"WreckField$Survey", "tapeItem", "(II)J"⟩ ∈ px_good := px_mem_good (px_t2 (i := 205) rfl) rfl
theorem wd_509 : Cond.code yX7_squares cX7_squares 7 (some .long) ∈ px_good := px_mem_good (px_t2 (i := 214) rfl) rfl
theorem wd_510 : Cond.methodLink "WreckField" 109 ⟨"WreckField$Survey", "squares", "()J"⟩ ∈ px_good := px_mem_good (px_t2 (i := 211) rfl) rfl
theorem wd_511 : Cond.instanceMethod ⟨"WreckField$Survey", "squares", "()J"⟩ ∈ px_good := px_mem_good (px_t2 (i := 212) rfl) rfl
theorem wd_512 : Cond.selects "WreckField$Survey" ⟨"WreckField$Survey", "squares", "()J"⟩ ⟨"WreckField$Survey", "squares", "()J"⟩ ∈ px_good := px_mem_good (px_t2 (i := 213) rfl) rfl
theorem wd_513 : Cond.code yX10_addFind cX10_addFind 5 (some .int) ∈ px_good := px_mem_good (px_t2 (i := 222) rfl) rfl
theorem wd_514 : Cond.methodLink "WreckField" 113 ⟨"WreckField$Yard", "addFind", "(IIII)I"⟩ ∈ px_good := px_mem_good (px_t2 (i := 219) rfl) rfl
theorem wd_515 : Cond.instanceMethod ⟨"WreckField$Yard", "addFind", "(IIII)I"⟩ ∈ px_good := px_mem_good (px_t2 (i := 220) rfl) rfl
theorem wd_516 : Cond.selects "WreckField$Yard" ⟨"WreckField$Yard", "addFind", "(IIII)I"⟩ ⟨"WreckField$Yard", "addFind", "(IIII)I"⟩ ∈ px_good := px_mem_good (px_t2 (i := 221) rfl) rfl
theorem wd_517 : Cond.methodLink "WreckField" 117 ⟨"WreckField$Yard", "timberAt", "(I)LWreckField$Find;"⟩ ∈ px_good := px_mem_good (px_t3 (i := 32) rfl) rfl
theorem wd_518 : Cond.code yX2_addHole cX2_addHole 3 (some .int) ∈ px_good := px_mem_good (px_t3 (i := 43) rfl) rfl
theorem wd_519 : Cond.methodLink "WreckField" 121 ⟨"WreckField$Find", "addHole", "(I)I"⟩ ∈ px_good := px_mem_good (px_t3 (i := 40) rfl) rfl
theorem wd_520 : Cond.instanceMethod ⟨"WreckField$Find", "addHole", "(I)I"⟩ ∈ px_good := px_mem_good (px_t3 (i := 41) rfl) rfl
theorem wd_521 : Cond.selects "WreckField$Find" ⟨"WreckField$Find", "addHole", "(I)I"⟩ ⟨"WreckField$Find", "addHole", "(I)I"⟩ ∈ px_good := px_mem_good (px_t3 (i := 42) rfl) rfl
theorem wd_522 : Cond.methodLink "WreckField" 126 ⟨"WreckField$Yard", "findAt", "(I)LWreckField$Find;"⟩ ∈ px_good := px_mem_good (px_t3 (i := 48) rfl) rfl
theorem wd_523 : Cond.code yX2_item cX2_item 2 (some .int) ∈ px_good := px_mem_good (px_t3 (i := 52) rfl) rfl
theorem wd_524 : Cond.methodLink "WreckField" 129 ⟨"WreckField$Find", "item", "(I)I"⟩ ∈ px_good := px_mem_good (px_t3 (i := 49) rfl) rfl
theorem wd_525 : Cond.instanceMethod ⟨"WreckField$Find", "item", "(I)I"⟩ ∈ px_good := px_mem_good (px_t3 (i := 50) rfl) rfl
theorem wd_526 : Cond.selects "WreckField$Find" ⟨"WreckField$Find", "item", "(I)I"⟩ ⟨"WreckField$Find", "item", "(I)I"⟩ ∈ px_good := px_mem_good (px_t3 (i := 51) rfl) rfl
theorem wd_527 : Cond.code yX10_addTank cX10_addTank 3 (some .int) ∈ px_good := px_mem_good (px_t3 (i := 66) rfl) rfl
theorem wd_528 : Cond.methodLink "WreckField" 132 ⟨"WreckField$Yard", "addTank", "(II)I"⟩ ∈ px_good := px_mem_good (px_t3 (i := 63) rfl) rfl
theorem wd_529 : Cond.instanceMethod ⟨"WreckField$Yard", "addTank", "(II)I"⟩ ∈ px_good := px_mem_good (px_t3 (i := 64) rfl) rfl
theorem wd_530 : Cond.selects "WreckField$Yard" ⟨"WreckField$Yard", "addTank", "(II)I"⟩ ⟨"WreckField$Yard", "addTank", "(II)I"⟩ ∈ px_good := px_mem_good (px_t3 (i := 65) rfl) rfl
theorem wd_531 : Cond.code yX10_tankItem cX10_tankItem 3 (some .int) ∈ px_good := px_mem_good (px_t3 (i := 74) rfl) rfl
theorem wd_532 : Cond.methodLink "WreckField" 135 ⟨"WreckField$Yard", "tankItem", "(II)I"⟩ ∈ px_good := px_mem_good (px_t3 (i := 71) rfl) rfl
theorem wd_533 : Cond.instanceMethod ⟨"WreckField$Yard", "tankItem", "(II)I"⟩ ∈ px_good := px_mem_good (px_t3 (i := 72) rfl) rfl
theorem wd_534 : Cond.selects "WreckField$Yard" ⟨"WreckField$Yard", "tankItem", "(II)I"⟩ ⟨"WreckField$Yard", "tankItem", "(II)I"⟩ ∈ px_good := px_mem_good (px_t3 (i := 73) rfl) rfl
theorem wd_535 : Cond.code yX11_liftRefusal cX11_liftRefusal 7 (some .int) ∈ px_good := px_mem_good (px_t3 (i := 94) rfl) rfl
theorem wd_536 : Cond.methodLink "WreckField" 138 ⟨"WreckField", "liftRefusal", "(III)I"⟩ ∈ px_good := px_mem_good (px_t3 (i := 91) rfl) rfl
theorem wd_537 : Cond.instanceMethod ⟨"WreckField", "liftRefusal", "(III)I"⟩ ∈ px_good := px_mem_good (px_t3 (i := 93) rfl) rfl
theorem wd_538 : Cond.selects "WreckField" ⟨"WreckField", "liftRefusal", "(III)I"⟩ ⟨"WreckField", "liftRefusal", "(III)I"⟩ ∈ px_good := px_mem_good (px_sel (y := ⟨"WreckField", "liftRefusal", "(III)I"⟩) (n := 8) (px_p1 (i := 13) rfl)) rfl
theorem wd_539 : Cond.code yX2_goInto cX2_goInto 3 none ∈ px_good := px_mem_good (px_t3 (i := 140) rfl) rfl
theorem wd_540 : Cond.methodLink "WreckField" 141 ⟨"WreckField$Find", "goInto", "(II)V"⟩ ∈ px_good := px_mem_good (px_t3 (i := 137) rfl) rfl
theorem wd_541 : Cond.instanceMethod ⟨"WreckField$Find", "goInto", "(II)V"⟩ ∈ px_good := px_mem_good (px_t3 (i := 138) rfl) rfl
theorem wd_542 : Cond.selects "WreckField$Find" ⟨"WreckField$Find", "goInto", "(II)V"⟩ ⟨"WreckField$Find", "goInto", "(II)V"⟩ ∈ px_good := px_mem_good (px_t3 (i := 139) rfl) rfl
theorem wd_543 : Cond.methodLink "WreckField" 145 ⟨"WreckField$Yard", "hasTank", "(I)Z"⟩ ∈ px_good := px_mem_good (px_t3 (i := 95) rfl) rfl
theorem wd_544 : Cond.code yX11_isDay cX11_isDay 1 (some .boolean) ∈ px_good := px_mem_good (px_t3 (i := 98) rfl) rfl
theorem wd_545 : Cond.methodLink "WreckField" 148 ⟨"WreckField", "isDay", "(I)Z"⟩ ∈ px_good := px_mem_good (px_t3 (i := 96) rfl) rfl
theorem wd_546 : Cond.static ⟨"WreckField", "isDay", "(I)Z"⟩ ∈ px_good := px_mem_good (px_t3 (i := 97) rfl) rfl
theorem wd_547 : Cond.code yX10_refusal cX10_refusal 3 (some .int) ∈ px_good := px_mem_good (px_t3 (i := 102) rfl) rfl
theorem wd_548 : Cond.methodLink "WreckField" 151 ⟨"WreckField$Yard", "refusal", "(LWreckField$Find;I)I"⟩ ∈ px_good := px_mem_good (px_t3 (i := 99) rfl) rfl
theorem wd_549 : Cond.instanceMethod ⟨"WreckField$Yard", "refusal", "(LWreckField$Find;I)I"⟩ ∈ px_good := px_mem_good (px_t3 (i := 100) rfl) rfl
theorem wd_550 : Cond.selects "WreckField$Yard" ⟨"WreckField$Yard", "refusal", "(LWreckField$Find;I)I"⟩ ⟨"WreckField$Yard", "refusal", "(LWreckField$Find;I)I"⟩ ∈ px_good := px_mem_good (px_t3 (i := 101) rfl) rfl
theorem wd_551 : Cond.fieldLink "WreckField" 155 "WreckField$RuleReader" "current" "LWreckField$Rule;" ∈ px_good := px_mem_good (px_t1 (i := 186) rfl) rfl
theorem wd_552 : Cond.code yX4_firstHolding cX4_firstHolding 4 (some .int) ∈ px_good := px_mem_good (px_t3 (i := 112) rfl) rfl
theorem wd_553 : Cond.methodLink "WreckField" 159 ⟨"WreckField$Rule", "firstHolding", "(LWreckField$Find;I)I"⟩ ∈ px_good := px_mem_good (px_t3 (i := 109) rfl) rfl
theorem wd_554 : Cond.instanceMethod ⟨"WreckField$Rule", "firstHolding", "(LWreckField$Find;I)I"⟩ ∈ px_good := px_mem_good (px_t3 (i := 110) rfl) rfl
theorem wd_555 : Cond.selects "WreckField$Rule" ⟨"WreckField$Rule", "firstHolding", "(LWreckField$Find;I)I"⟩ ⟨"WreckField$Rule", "firstHolding", "(LWreckField$Find;I)I"⟩ ∈ px_good := px_mem_good (px_t3 (i := 111) rfl) rfl
theorem wd_556 : Cond.fieldLink "WreckField" 164 "WreckField$Find" "tank" "I" ∈ px_good := px_mem_good (px_t3 (i := 7) rfl) rfl
theorem wd_557 : Cond.methodLink "WreckField" 167 ⟨"WreckField$Find", "readyDay", "()I"⟩ ∈ px_good := px_mem_good (px_t3 (i := 149) rfl) rfl
theorem wd_558 : Cond.code yX2_goOut cX2_goOut 1 none ∈ px_good := px_mem_good (px_t3 (i := 153) rfl) rfl
theorem wd_559 : Cond.methodLink "WreckField" 171 ⟨"WreckField$Find", "goOut", "()V"⟩ ∈ px_good := px_mem_good (px_t3 (i := 150) rfl) rfl
theorem wd_560 : Cond.instanceMethod ⟨"WreckField$Find", "goOut", "()V"⟩ ∈ px_good := px_mem_good (px_t3 (i := 151) rfl) rfl
theorem wd_561 : Cond.selects "WreckField$Find" ⟨"WreckField$Find", "goOut", "()V"⟩ ⟨"WreckField$Find", "goOut", "()V"⟩ ∈ px_good := px_mem_good (px_t3 (i := 152) rfl) rfl
theorem wd_562 : Cond.code yX1_addDiver cX1_addDiver 1 (some .int) ∈ px_good := px_mem_good (px_t3 (i := 161) rfl) rfl
theorem wd_563 : Cond.methodLink "WreckField" 174 ⟨"WreckField$DiveLog", "addDiver", "()I"⟩ ∈ px_good := px_mem_good (px_t3 (i := 158) rfl) rfl
theorem wd_564 : Cond.instanceMethod ⟨"WreckField$DiveLog", "addDiver", "()I"⟩ ∈ px_good := px_mem_good (px_t3 (i := 159) rfl) rfl
theorem wd_565 : Cond.selects "WreckField$DiveLog" ⟨"WreckField$DiveLog", "addDiver", "()I"⟩ ⟨"WreckField$DiveLog", "addDiver", "()I"⟩ ∈ px_good := px_mem_good (px_t3 (i := 160) rfl) rfl
theorem wd_566 : Cond.code yX1_putRow cX1_putRow 5 (some .int) ∈ px_good := px_mem_good (px_t3 (i := 169) rfl) rfl
theorem wd_567 : Cond.methodLink "WreckField" 177 ⟨"WreckField$DiveLog", "putRow", "(III)I"⟩ ∈ px_good := px_mem_good (px_t3 (i := 166) rfl) rfl
theorem wd_568 : Cond.instanceMethod ⟨"WreckField$DiveLog", "putRow", "(III)I"⟩ ∈ px_good := px_mem_good (px_t3 (i := 167) rfl) rfl
theorem wd_569 : Cond.selects "WreckField$DiveLog" ⟨"WreckField$DiveLog", "putRow", "(III)I"⟩ ⟨"WreckField$DiveLog", "putRow", "(III)I"⟩ ∈ px_good := px_mem_good (px_t3 (i := 168) rfl) rfl
theorem wd_570 : Cond.code yX1_canBeAsked cX1_canBeAsked 6 (some .boolean) ∈ px_good := px_mem_good (px_t3 (i := 185) rfl) rfl
theorem wd_571 : Cond.methodLink "WreckField" 180 ⟨"WreckField$DiveLog", "canBeAsked", "(IIIII)Z"⟩ ∈ px_good := px_mem_good (px_t3 (i := 182) rfl) rfl
theorem wd_572 : Cond.instanceMethod ⟨"WreckField$DiveLog", "canBeAsked", "(IIIII)Z"⟩ ∈ px_good := px_mem_good (px_t3 (i := 183) rfl) rfl
theorem wd_573 : Cond.selects "WreckField$DiveLog" ⟨"WreckField$DiveLog", "canBeAsked", "(IIIII)Z"⟩ ⟨"WreckField$DiveLog", "canBeAsked", "(IIIII)Z"⟩ ∈ px_good := px_mem_good (px_t3 (i := 184) rfl) rfl
theorem wd_574 : Cond.code yX1_refusal cX1_refusal 7 (some .int) ∈ px_good := px_mem_good (px_t3 (i := 194) rfl) rfl
theorem wd_575 : Cond.methodLink "WreckField" 184 ⟨"WreckField$DiveLog", "refusal", "(IIIII)I"⟩ ∈ px_good := px_mem_good (px_t3 (i := 191) rfl) rfl
theorem wd_576 : Cond.instanceMethod ⟨"WreckField$DiveLog", "refusal", "(IIIII)I"⟩ ∈ px_good := px_mem_good (px_t3 (i := 192) rfl) rfl
theorem wd_577 : Cond.selects "WreckField$DiveLog" ⟨"WreckField$DiveLog", "refusal", "(IIIII)I"⟩ ⟨"WreckField$DiveLog", "refusal", "(IIIII)I"⟩ ∈ px_good := px_mem_good (px_t3 (i := 193) rfl) rfl
theorem wd_578 : Cond.code yX1_addDive cX1_addDive 6 (some .int) ∈ px_good := px_mem_good (px_t3 (i := 234) rfl) rfl
theorem wd_579 : Cond.methodLink "WreckField" 187 ⟨"WreckField$DiveLog", "addDive", "(IIIII)I"⟩ ∈ px_good := px_mem_good (px_t3 (i := 231) rfl) rfl
theorem wd_580 : Cond.instanceMethod ⟨"WreckField$DiveLog", "addDive", "(IIIII)I"⟩ ∈ px_good := px_mem_good (px_t3 (i := 232) rfl) rfl
theorem wd_581 : Cond.selects "WreckField$DiveLog" ⟨"WreckField$DiveLog", "addDive", "(IIIII)I"⟩ ⟨"WreckField$DiveLog", "addDive", "(IIIII)I"⟩ ∈ px_good := px_mem_good (px_t3 (i := 233) rfl) rfl
theorem wd_582 : Cond.code yX1_dropLast cX1_dropLast 1 (some .int) ∈ px_good := px_mem_good (px_t4 (i := 26) rfl) rfl
theorem wd_583 : Cond.methodLink "WreckField" 190 ⟨"WreckField$DiveLog", "dropLast", "()I"⟩ ∈ px_good := px_mem_good (px_t4 (i := 23) rfl) rfl
theorem wd_584 : Cond.instanceMethod ⟨"WreckField$DiveLog", "dropLast", "()I"⟩ ∈ px_good := px_mem_good (px_t4 (i := 24) rfl) rfl
theorem wd_585 : Cond.selects "WreckField$DiveLog" ⟨"WreckField$DiveLog", "dropLast", "()I"⟩ ⟨"WreckField$DiveLog", "dropLast", "()I"⟩ ∈ px_good := px_mem_good (px_t4 (i := 25) rfl) rfl
theorem wd_586 : Cond.methodLink "WreckField" 193 ⟨"WreckField$DiveLog", "hasDiver", "(I)Z"⟩ ∈ px_good := px_mem_good (px_t4 (i := 31) rfl) rfl
theorem wd_587 : Cond.methodLink "WreckField" 196 ⟨"WreckField$DiveLog", "minutesOn", "(II)I"⟩ ∈ px_good := px_mem_good (px_t4 (i := 32) rfl) rfl
theorem wd_588 : Cond.code yX1_firstMoment cX1_firstMoment 12 (some .int) ∈ px_good := px_mem_good (px_t4 (i := 40) rfl) rfl
theorem wd_589 : Cond.methodLink "WreckField" 199 ⟨"WreckField$DiveLog", "firstMoment", "(IIIII)I"⟩ ∈ px_good := px_mem_good (px_t4 (i := 37) rfl) rfl
theorem wd_590 : Cond.instanceMethod ⟨"WreckField$DiveLog", "firstMoment", "(IIIII)I"⟩ ∈ px_good := px_mem_good (px_t4 (i := 38) rfl) rfl
theorem wd_591 : Cond.selects "WreckField$DiveLog" ⟨"WreckField$DiveLog", "firstMoment", "(IIIII)I"⟩ ⟨"WreckField$DiveLog", "firstMoment", "(IIIII)I"⟩ ∈ px_good := px_mem_good (px_t4 (i := 39) rfl) rfl
theorem wd_592 : Cond.code yX5_append cX5_append 5 (some .int) ∈ px_good := px_mem_good (px_t4 (i := 56) rfl) rfl
theorem wd_593 : Cond.methodLink "WreckField" 202 ⟨"WreckField$RuleReader", "append", "(IJ)I"⟩ ∈ px_good := px_mem_good (px_t4 (i := 53) rfl) rfl
theorem wd_594 : Cond.instanceMethod ⟨"WreckField$RuleReader", "append", "(IJ)I"⟩ ∈ px_good := px_mem_good (px_t4 (i := 54) rfl) rfl
theorem wd_595 : Cond.selects "WreckField$RuleReader" ⟨"WreckField$RuleReader", "append", "(IJ)I"⟩ ⟨"WreckField$RuleReader", "append", "(IJ)I"⟩ ∈ px_good := px_mem_good (px_t4 (i := 55) rfl) rfl
theorem wd_596 : Cond.code yX5_readAll cX5_readAll 3 (some .int) ∈ px_good := px_mem_good (px_t4 (i := 65) rfl) rfl
theorem wd_597 : Cond.methodLink "WreckField" 206 ⟨"WreckField$RuleReader", "readAll", "()I"⟩ ∈ px_good := px_mem_good (px_t4 (i := 62) rfl) rfl
theorem wd_598 : Cond.instanceMethod ⟨"WreckField$RuleReader", "readAll", "()I"⟩ ∈ px_good := px_mem_good (px_t4 (i := 63) rfl) rfl
theorem wd_599 : Cond.selects "WreckField$RuleReader" ⟨"WreckField$RuleReader", "readAll", "()I"⟩ ⟨"WreckField$RuleReader", "readAll", "()I"⟩ ∈ px_good := px_mem_good (px_t4 (i := 64) rfl) rfl
theorem wd_600 : Cond.fieldLink "WreckField" 209 "WreckField$Rule" "bars" "I" ∈ px_good := px_mem_good (px_t1 (i := 166) rfl) rfl
theorem wd_601 : Cond.constantLong "WreckField" 212 (-4611686018427387904) ∈ px_good := px_mem_good (px_t4 (i := 209) rfl) rfl
theorem wd_602 : Cond.methodLink "WreckField" 214 ⟨"WreckField$Rule", "valueOf", "(ILWreckField$Find;I)I"⟩ ∈ px_good := px_mem_good (px_t4 (i := 210) rfl) rfl
theorem wd_603 : Cond.methodLink "WreckField" 218 ⟨"WreckField$Timbers", "match", "(LWreckField$Find;LWreckField$Find;)V"⟩ ∈ px_good := px_mem_good (px_t4 (i := 215) rfl) rfl
theorem wd_604 : Cond.fieldLink "WreckField" 222 "WreckField$Timbers" "greatest" "I" ∈ px_good := px_mem_good (px_t1 (i := 220) rfl) rfl
theorem wd_605 : Cond.fieldLink "WreckField" 225 "WreckField$Timbers" "shift" "I" ∈ px_good := px_mem_good (px_t1 (i := 222) rfl) rfl
theorem wd_606 : Cond.code yX8_bestOf cX8_bestOf 8 (some .int) ∈ px_good := px_mem_good (px_t4 (i := 230) rfl) rfl
theorem wd_607 : Cond.methodLink "WreckField" 228 ⟨"WreckField$Timbers", "bestOf", "(LWreckField$Yard;I)I"⟩ ∈ px_good := px_mem_good (px_t4 (i := 227) rfl) rfl
theorem wd_608 : Cond.instanceMethod ⟨"WreckField$Timbers", "bestOf", "(LWreckField$Yard;I)I"⟩ ∈ px_good := px_mem_good (px_t4 (i := 228) rfl) rfl
theorem wd_609 : Cond.selects "WreckField$Timbers" ⟨"WreckField$Timbers", "bestOf", "(LWreckField$Yard;I)I"⟩ ⟨"WreckField$Timbers", "bestOf", "(LWreckField$Yard;I)I"⟩ ∈ px_good := px_mem_good (px_t4 (i := 229) rfl) rfl
theorem wd_610 : Cond.code yX3_addTask cX3_addTask 6 (some .int) ∈ px_good := px_mem_good (px_t5 (i := 4) rfl) rfl
theorem wd_611 : Cond.methodLink "WreckField" 232 ⟨"WreckField$Planner", "addTask", "(II)I"⟩ ∈ px_good := px_mem_good (px_t5 (i := 1) rfl) rfl
theorem wd_612 : Cond.instanceMethod ⟨"WreckField$Planner", "addTask", "(II)I"⟩ ∈ px_good := px_mem_good (px_t5 (i := 2) rfl) rfl
theorem wd_613 : Cond.selects "WreckField$Planner" ⟨"WreckField$Planner", "addTask", "(II)I"⟩ ⟨"WreckField$Planner", "addTask", "(II)I"⟩ ∈ px_good := px_mem_good (px_t5 (i := 3) rfl) rfl
theorem wd_614 : Cond.code yX3_addGang cX3_addGang 2 (some .int) ∈ px_good := px_mem_good (px_t5 (i := 14) rfl) rfl
theorem wd_615 : Cond.methodLink "WreckField" 235 ⟨"WreckField$Planner", "addGang", "(I)I"⟩ ∈ px_good := px_mem_good (px_t5 (i := 11) rfl) rfl
theorem wd_616 : Cond.instanceMethod ⟨"WreckField$Planner", "addGang", "(I)I"⟩ ∈ px_good := px_mem_good (px_t5 (i := 12) rfl) rfl
theorem wd_617 : Cond.selects "WreckField$Planner" ⟨"WreckField$Planner", "addGang", "(I)I"⟩ ⟨"WreckField$Planner", "addGang", "(I)I"⟩ ∈ px_good := px_mem_good (px_t5 (i := 13) rfl) rfl
theorem wd_618 : Cond.code yX3_greatestWorth cX3_greatestWorth 1 (some .int) ∈ px_good := px_mem_good (px_t5 (i := 22) rfl) rfl
theorem wd_619 : Cond.methodLink "WreckField" 238 ⟨"WreckField$Planner", "greatestWorth", "()I"⟩ ∈ px_good := px_mem_good (px_t5 (i := 19) rfl) rfl
theorem wd_620 : Cond.instanceMethod ⟨"WreckField$Planner", "greatestWorth", "()I"⟩ ∈ px_good := px_mem_good (px_t5 (i := 20) rfl) rfl
theorem wd_621 : Cond.selects "WreckField$Planner" ⟨"WreckField$Planner", "greatestWorth", "()I"⟩ ⟨"WreckField$Planner", "greatestWorth", "()I"⟩ ∈ px_good := px_mem_good (px_t5 (i := 21) rfl) rfl
theorem wd_622 : Cond.code yX3_gangOf cX3_gangOf 2 (some .int) ∈ px_good := px_mem_good (px_t5 (i := 45) rfl) rfl
theorem wd_623 : Cond.methodLink "WreckField" 241 ⟨"WreckField$Planner", "gangOf", "(I)I"⟩ ∈ px_good := px_mem_good (px_t5 (i := 42) rfl) rfl
theorem wd_624 : Cond.instanceMethod ⟨"WreckField$Planner", "gangOf", "(I)I"⟩ ∈ px_good := px_mem_good (px_t5 (i := 43) rfl) rfl
theorem wd_625 : Cond.selects "WreckField$Planner" ⟨"WreckField$Planner", "gangOf", "(I)I"⟩ ⟨"WreckField$Planner", "gangOf", "(I)I"⟩ ∈ px_good := px_mem_good (px_t5 (i := 44) rfl) rfl
theorem wd_626 : Cond.code yX9_openHatches cX9_openHatches 3 (some .int) ∈ px_good := px_mem_good (px_t5 (i := 53) rfl) rfl
theorem wd_627 : Cond.methodLink "WreckField" 244 ⟨"WreckField$Wreck", "openHatches", "(I)I"⟩ ∈ px_good := px_mem_good (px_t5 (i := 50) rfl) rfl
theorem wd_628 : Cond.instanceMethod ⟨"WreckField$Wreck", "openHatches", "(I)I"⟩ ∈ px_good := px_mem_good (px_t5 (i := 51) rfl) rfl
theorem wd_629 : Cond.selects "WreckField$Wreck" ⟨"WreckField$Wreck", "openHatches", "(I)I"⟩ ⟨"WreckField$Wreck", "openHatches", "(I)I"⟩ ∈ px_good := px_mem_good (px_t5 (i := 52) rfl) rfl
theorem wd_630 : Cond.code yX9_changeRoll cX9_changeRoll 3 (some .int) ∈ px_good := px_mem_good (px_t5 (i := 61) rfl) rfl
theorem wd_631 : Cond.methodLink "WreckField" 247 ⟨"WreckField$Wreck", "changeRoll", "(I)I"⟩ ∈ px_good := px_mem_good (px_t5 (i := 58) rfl) rfl
theorem wd_632 : Cond.instanceMethod ⟨"WreckField$Wreck", "changeRoll", "(I)I"⟩ ∈ px_good := px_mem_good (px_t5 (i := 59) rfl) rfl
theorem wd_633 : Cond.selects "WreckField$Wreck" ⟨"WreckField$Wreck", "changeRoll", "(I)I"⟩ ⟨"WreckField$Wreck", "changeRoll", "(I)I"⟩ ∈ px_good := px_mem_good (px_t5 (i := 60) rfl) rfl
theorem wd_634 : Cond.code yX9_ways cX9_ways 4 (some .int) ∈ px_good := px_mem_good (px_t5 (i := 69) rfl) rfl
theorem wd_635 : Cond.methodLink "WreckField" 250 ⟨"WreckField$Wreck", "ways", "(LWreckField$Find;)I"⟩ ∈ px_good := px_mem_good (px_t5 (i := 66) rfl) rfl
theorem wd_636 : Cond.instanceMethod ⟨"WreckField$Wreck", "ways", "(LWreckField$Find;)I"⟩ ∈ px_good := px_mem_good (px_t5 (i := 67) rfl) rfl
theorem wd_637 : Cond.selects "WreckField$Wreck" ⟨"WreckField$Wreck", "ways", "(LWreckField$Find;)I"⟩ ⟨"WreckField$Wreck", "ways", "(LWreckField$Find;)I"⟩ ∈ px_good := px_mem_good (px_t5 (i := 68) rfl) rfl
theorem wd_638 : Cond.code yX9_wayAt cX9_wayAt 6 (some .int) ∈ px_good := px_mem_good (px_t5 (i := 87) rfl) rfl
theorem wd_639 : Cond.methodLink "WreckField" 254 ⟨"WreckField$Wreck", "wayAt", "(LWreckField$Find;I)I"⟩ ∈ px_good := px_mem_good (px_t5 (i := 84) rfl) rfl
theorem wd_640 : Cond.instanceMethod ⟨"WreckField$Wreck", "wayAt", "(LWreckField$Find;I)I"⟩ ∈ px_good := px_mem_good (px_t5 (i := 85) rfl) rfl
theorem wd_641 : Cond.selects "WreckField$Wreck" ⟨"WreckField$Wreck", "wayAt", "(LWreckField$Find;I)I"⟩ ⟨"WreckField$Wreck", "wayAt", "(LWreckField$Find;I)I"⟩ ∈ px_good := px_mem_good (px_t5 (i := 86) rfl) rfl
theorem wd_642 : Cond.fieldLink "WreckField" 257 "WreckField$Survey" "markCount" "I" ∈ px_good := px_mem_good (px_t1 (i := 34) rfl) rfl
theorem wd_643 : Cond.fieldLink "WreckField" 260 "WreckField$Yard" "findCount" "I" ∈ px_good := px_mem_good (px_t1 (i := 102) rfl) rfl
theorem wd_644 : Cond.fieldLink "WreckField" 263 "WreckField$Yard" "tankCount" "I" ∈ px_good := px_mem_good (px_t1 (i := 104) rfl) rfl
theorem wd_645 : Cond.fieldLink "WreckField" 266 "WreckField$DiveLog" "divers" "I" ∈ px_good := px_mem_good (px_t1 (i := 128) rfl) rfl
theorem wd_646 : Cond.fieldLink "WreckField" 269 "WreckField$DiveLog" "rows" "I" ∈ px_good := px_mem_good (px_t1 (i := 130) rfl) rfl
theorem wd_647 : Cond.fieldLink "WreckField" 272 "WreckField$DiveLog" "diveCount" "I" ∈ px_good := px_mem_good (px_t1 (i := 132) rfl) rfl
theorem wd_648 : Cond.fieldLink "WreckField" 275 "WreckField$RuleReader" "size" "I" ∈ px_good := px_mem_good (px_t1 (i := 189) rfl) rfl
theorem wd_649 : Cond.fieldLink "WreckField" 278 "WreckField$Planner" "tasks" "I" ∈ px_good := px_mem_good (px_t1 (i := 237) rfl) rfl
theorem wd_650 : Cond.fieldLink "WreckField" 281 "WreckField$Planner" "gangs" "I" ∈ px_good := px_mem_good (px_t1 (i := 239) rfl) rfl
theorem wd_651 : Cond.code yX10_inField cX10_inField 4 (some .int) ∈ px_good := px_mem_good (px_t5 (i := 95) rfl) rfl
theorem wd_652 : Cond.methodLink "WreckField" 284 ⟨"WreckField$Yard", "inField", "()I"⟩ ∈ px_good := px_mem_good (px_t5 (i := 92) rfl) rfl
theorem wd_653 : Cond.instanceMethod ⟨"WreckField$Yard", "inField", "()I"⟩ ∈ px_good := px_mem_good (px_t5 (i := 93) rfl) rfl
theorem wd_654 : Cond.selects "WreckField$Yard" ⟨"WreckField$Yard", "inField", "()I"⟩ ⟨"WreckField$Yard", "inField", "()I"⟩ ∈ px_good := px_mem_good (px_t5 (i := 94) rfl) rfl
theorem wd_655 : Cond.methodLink "WreckField" 287 ⟨"WreckField$Survey", "fittedRound", "()I"⟩ ∈ px_good := px_mem_good (px_t5 (i := 96) rfl) rfl
theorem wd_656 : Cond.code yX6_make cX6_make 5 (some .int) ∈ px_good := px_mem_good (px_t5 (i := 104) rfl) rfl
theorem wd_657 : Cond.methodLink "WreckField" 290 ⟨"WreckField$Sheets", "make", "(III)I"⟩ ∈ px_good := px_mem_good (px_t5 (i := 101) rfl) rfl
theorem wd_658 : Cond.instanceMethod ⟨"WreckField$Sheets", "make", "(III)I"⟩ ∈ px_good := px_mem_good (px_t5 (i := 102) rfl) rfl
theorem wd_659 : Cond.selects "WreckField$Sheets" ⟨"WreckField$Sheets", "make", "(III)I"⟩ ⟨"WreckField$Sheets", "make", "(III)I"⟩ ∈ px_good := px_mem_good (px_t5 (i := 103) rfl) rfl
theorem wd_660 : Cond.code yX6_put cX6_put 4 (some .int) ∈ px_good := px_mem_good (px_t5 (i := 113) rfl) rfl
theorem wd_661 : Cond.methodLink "WreckField" 293 ⟨"WreckField$Sheets", "put", "(III)I"⟩ ∈ px_good := px_mem_good (px_t5 (i := 110) rfl) rfl
theorem wd_662 : Cond.instanceMethod ⟨"WreckField$Sheets", "put", "(III)I"⟩ ∈ px_good := px_mem_good (px_t5 (i := 111) rfl) rfl
theorem wd_663 : Cond.selects "WreckField$Sheets" ⟨"WreckField$Sheets", "put", "(III)I"⟩ ⟨"WreckField$Sheets", "put", "(III)I"⟩ ∈ px_good := px_mem_good (px_t5 (i := 112) rfl) rfl
theorem wd_664 : Cond.code yX6_wipe cX6_wipe 4 (some .int) ∈ px_good := px_mem_good (px_t5 (i := 127) rfl) rfl
theorem wd_665 : Cond.methodLink "WreckField" 296 ⟨"WreckField$Sheets", "wipe", "(II)I"⟩ ∈ px_good := px_mem_good (px_t5 (i := 124) rfl) rfl
theorem wd_666 : Cond.instanceMethod ⟨"WreckField$Sheets", "wipe", "(II)I"⟩ ∈ px_good := px_mem_good (px_t5 (i := 125) rfl) rfl
theorem wd_667 : Cond.selects "WreckField$Sheets" ⟨"WreckField$Sheets", "wipe", "(II)I"⟩ ⟨"WreckField$Sheets", "wipe", "(II)I"⟩ ∈ px_good := px_mem_good (px_t5 (i := 126) rfl) rfl
theorem wd_668 : Cond.methodLink "WreckField" 299 ⟨"WreckField$Find", "isUnder", "(I)Z"⟩ ∈ px_good := px_mem_good (px_t5 (i := 133) rfl) rfl
theorem wd_669 : Cond.fieldLink "WreckField" 302 "WreckField$Find" "square" "I" ∈ px_good := px_mem_good (px_t2 (i := 232) rfl) rfl
theorem wd_670 : Cond.methodLink "WreckFieldModel" 1 ⟨"java/lang/Object", "<init>", "()V"⟩ ∈ px_good := px_mem_good (px_t5 (i := 139) rfl) rfl
theorem wd_671 : Cond.fieldLink "WreckFieldModel" 7 "WreckFieldModel" "mx" "[I" ∈ px_good := px_mem_good (px_t5 (i := 141) rfl) rfl
theorem wd_672 : Cond.fieldLink "WreckFieldModel" 13 "WreckFieldModel" "my" "[I" ∈ px_good := px_mem_good (px_t5 (i := 142) rfl) rfl
theorem wd_673 : Cond.fieldLink "WreckFieldModel" 16 "WreckFieldModel" "fx" "[I" ∈ px_good := px_mem_good (px_t5 (i := 143) rfl) rfl
theorem wd_674 : Cond.fieldLink "WreckFieldModel" 19 "WreckFieldModel" "fy" "[I" ∈ px_good := px_mem_good (px_t5 (i := 144) rfl) rfl
theorem wd_675 : Cond.fieldLink "WreckFieldModel" 22 "WreckFieldModel" "isFixed" "[Z" ∈ px_good := px_mem_good (px_t5 (i := 145) rfl) rfl
theorem wd_676 : Cond.fieldLink "WreckFieldModel" 26 "WreckFieldModel" "ta" "[I" ∈ px_good := px_mem_good (px_t5 (i := 147) rfl) rfl
theorem wd_677 : Cond.fieldLink "WreckFieldModel" 29 "WreckFieldModel" "tb" "[I" ∈ px_good := px_mem_good (px_t5 (i := 148) rfl) rfl
theorem wd_678 : Cond.fieldLink "WreckFieldModel" 32 "WreckFieldModel" "length" "[I" ∈ px_good := px_mem_good (px_t5 (i := 149) rfl) rfl
theorem wd_679 : Cond.fieldLink "WreckFieldModel" 35 "WreckFieldModel" "isOut" "[Z" ∈ px_good := px_mem_good (px_t5 (i := 150) rfl) rfl
theorem wd_680 : Cond.fieldLink "WreckFieldModel" 38 "WreckFieldModel" "bar" "I" ∈ px_good := px_mem_good (px_t5 (i := 152) rfl) rfl
theorem wd_681 : Cond.fieldLink "WreckFieldModel" 42 "WreckFieldModel" "kind" "[I" ∈ px_good := px_mem_good (px_t5 (i := 154) rfl) rfl
theorem wd_682 : Cond.fieldLink "WreckFieldModel" 45 "WreckFieldModel" "square" "[I" ∈ px_good := px_mem_good (px_t5 (i := 155) rfl) rfl
theorem wd_683 : Cond.fieldLink "WreckFieldModel" 48 "WreckFieldModel" "layer" "[I" ∈ px_good := px_mem_good (px_t5 (i := 156) rfl) rfl
theorem wd_684 : Cond.fieldLink "WreckFieldModel" 51 "WreckFieldModel" "size" "[I" ∈ px_good := px_mem_good (px_t5 (i := 157) rfl) rfl
theorem wd_685 : Cond.fieldLink "WreckFieldModel" 54 "WreckFieldModel" "holes" "[I" ∈ px_good := px_mem_good (px_t5 (i := 158) rfl) rfl
theorem wd_686 : Cond.fieldLink "WreckFieldModel" 57 "WreckFieldModel" "hole" "[I" ∈ px_good := px_mem_good (px_t5 (i := 159) rfl) rfl
theorem wd_687 : Cond.fieldLink "WreckFieldModel" 60 "WreckFieldModel" "tankOf" "[I" ∈ px_good := px_mem_good (px_t5 (i := 160) rfl) rfl
theorem wd_688 : Cond.fieldLink "WreckFieldModel" 63 "WreckFieldModel" "cameOn" "[I" ∈ px_good := px_mem_good (px_t5 (i := 161) rfl) rfl
theorem wd_689 : Cond.fieldLink "WreckFieldModel" 66 "WreckFieldModel" "tankKind" "[I" ∈ px_good := px_mem_good (px_t5 (i := 163) rfl) rfl
theorem wd_690 : Cond.fieldLink "WreckFieldModel" 69 "WreckFieldModel" "room" "[I" ∈ px_good := px_mem_good (px_t5 (i := 164) rfl) rfl
theorem wd_691 : Cond.fieldLink "WreckFieldModel" 72 "WreckFieldModel" "rowDepth" "[I" ∈ px_good := px_mem_good (px_t5 (i := 167) rfl) rfl
theorem wd_692 : Cond.fieldLink "WreckFieldModel" 75 "WreckFieldModel" "rowMost" "[I" ∈ px_good := px_mem_good (px_t5 (i := 168) rfl) rfl
theorem wd_693 : Cond.fieldLink "WreckFieldModel" 78 "WreckFieldModel" "rowRest" "[I" ∈ px_good := px_mem_good (px_t5 (i := 169) rfl) rfl
theorem wd_694 : Cond.fieldLink "WreckFieldModel" 81 "WreckFieldModel" "dA" "[I" ∈ px_good := px_mem_good (px_t5 (i := 171) rfl) rfl
theorem wd_695 : Cond.fieldLink "WreckFieldModel" 84 "WreckFieldModel" "dB" "[I" ∈ px_good := px_mem_good (px_t5 (i := 172) rfl) rfl
theorem wd_696 : Cond.fieldLink "WreckFieldModel" 87 "WreckFieldModel" "dAt" "[I" ∈ px_good := px_mem_good (px_t5 (i := 173) rfl) rfl
theorem wd_697 : Cond.fieldLink "WreckFieldModel" 90 "WreckFieldModel" "dDepth" "[I" ∈ px_good := px_mem_good (px_t5 (i := 174) rfl) rfl
theorem wd_698 : Cond.fieldLink "WreckFieldModel" 93 "WreckFieldModel" "dLong" "[I" ∈ px_good := px_mem_good (px_t5 (i := 175) rfl) rfl
theorem wd_699 : Cond.fieldLink "WreckFieldModel" 96 "WreckFieldModel" "tape" "[I" ∈ px_good := px_mem_good (px_t5 (i := 176) rfl) rfl
theorem wd_700 : Cond.fieldLink "WreckFieldModel" 99 "WreckFieldModel" "op" "[I" ∈ px_good := px_mem_good (px_t5 (i := 179) rfl) rfl
theorem wd_701 : Cond.fieldLink "WreckFieldModel" 102 "WreckFieldModel" "value" "[I" ∈ px_good := px_mem_good (px_t5 (i := 180) rfl) rfl
theorem wd_702 : Cond.fieldLink "WreckFieldModel" 105 "WreckFieldModel" "part" "[I" ∈ px_good := px_mem_good (px_t5 (i := 181) rfl) rfl
theorem wd_703 : Cond.fieldLink "WreckFieldModel" 108 "WreckFieldModel" "taskLong" "[I" ∈ px_good := px_mem_good (px_t5 (i := 183) rfl) rfl
theorem wd_704 : Cond.fieldLink "WreckFieldModel" 111 "WreckFieldModel" "worth" "[I" ∈ px_good := px_mem_good (px_t5 (i := 184) rfl) rfl
theorem wd_705 : Cond.fieldLink "WreckFieldModel" 114 "WreckFieldModel" "gangLong" "[I" ∈ px_good := px_mem_good (px_t5 (i := 186) rfl) rfl
theorem wd_706 : Cond.fieldLink "WreckFieldModel" 117 "WreckFieldModel" "sort" "[I" ∈ px_good := px_mem_good (px_t5 (i := 190) rfl) rfl
theorem wd_707 : Cond.fieldLink "WreckFieldModel" 120 "WreckFieldModel" "many" "[I" ∈ px_good := px_mem_good (px_t5 (i := 191) rfl) rfl
theorem wd_708 : Cond.fieldLink "WreckFieldModel" 123 "WreckFieldModel" "cells" "[I" ∈ px_good := px_mem_good (px_t5 (i := 192) rfl) rfl
theorem wd_709 : Cond.fieldLink "WreckFieldModel" 126 "WreckFieldModel" "isNone" "[Z" ∈ px_good := px_mem_good (px_t5 (i := 193) rfl) rfl
theorem wd_710 : Cond.fieldLink "WreckFieldModel" 129 "WreckFieldModel" "words" "[I" ∈ px_good := px_mem_good (px_t5 (i := 194) rfl) rfl
theorem wd_711 : Cond.fieldLink "WreckFieldModel" 132 "WreckFieldModel" "pile" "[I" ∈ px_good := px_mem_good (px_t5 (i := 204) rfl) rfl
theorem wd_712 : Cond.fieldLink "WreckFieldModel" 135 "WreckFieldModel" "given" "[I" ∈ px_good := px_mem_good (px_t5 (i := 206) rfl) rfl
theorem wd_713 : Cond.fieldLink "WreckFieldModel" 138 "WreckFieldModel" "bestGiven" "[I" ∈ px_good := px_mem_good (px_t5 (i := 207) rfl) rfl
theorem wd_714 : Cond.fieldLink "WreckFieldModel" 141 "WreckFieldModel" "left" "[I" ∈ px_good := px_mem_good (px_t5 (i := 208) rfl) rfl
theorem wd_715 : Cond.fieldLink "WreckFieldModel" 144 "WreckFieldModel" "marks" "I" ∈ px_good := px_mem_good (px_t5 (i := 140) rfl) rfl
theorem wd_716 : Cond.code yX12_in cX12_in 3 (some .boolean) ∈ px_good := px_mem_good (px_t6 (i := 114) rfl) rfl
theorem wd_717 : Cond.methodLink "WreckFieldModel" 147 ⟨"WreckFieldModel", "in", "(III)Z"⟩ ∈ px_good := px_mem_good (px_t6 (i := 112) rfl) rfl
theorem wd_718 : Cond.static ⟨"WreckFieldModel", "in", "(III)Z"⟩ ∈ px_good := px_mem_good (px_t6 (i := 113) rfl) rfl
theorem wd_719 : Cond.initialized "WreckFieldModel" ∈ px_good := px_mem_good (px_t1 (i := 11) rfl) rfl
theorem wd_720 : Cond.fieldLink "WreckFieldModel" 151 "WreckFieldModel" "finds" "I" ∈ px_good := px_mem_good (px_t5 (i := 153) rfl) rfl
theorem wd_721 : Cond.fieldLink "WreckFieldModel" 154 "WreckFieldModel" "isFit" "Z" ∈ px_good := px_mem_good (px_t5 (i := 151) rfl) rfl
theorem wd_722 : Cond.code yX12_isMark cX12_isMark 2 (some .boolean) ∈ px_good := px_mem_good (px_t6 (i := 122) rfl) rfl
theorem wd_723 : Cond.methodLink "WreckFieldModel" 158 ⟨"WreckFieldModel", "isMark", "(I)Z"⟩ ∈ px_good := px_mem_good (px_t6 (i := 119) rfl) rfl
theorem wd_724 : Cond.instanceMethod ⟨"WreckFieldModel", "isMark", "(I)Z"⟩ ∈ px_good := px_mem_good (px_t6 (i := 121) rfl) rfl
theorem wd_725 : Cond.selects "WreckFieldModel" ⟨"WreckFieldModel", "isMark", "(I)Z"⟩ ⟨"WreckFieldModel", "isMark", "(I)Z"⟩ ∈ px_good := px_mem_good (px_sel (y := ⟨"WreckFieldModel", "isMark", "(I)Z"⟩) (n := 69) (px_p3 (i := 9) rfl)) rfl
theorem wd_726 : Cond.fieldLink "WreckFieldModel" 162 "WreckFieldModel" "tapes" "I" ∈ px_good := px_mem_good (px_t5 (i := 146) rfl) rfl
theorem wd_727 : Cond.code yX12_isSheet cX12_isSheet 1 (some .boolean) ∈ px_good := px_mem_good (px_t6 (i := 129) rfl) rfl
theorem wd_728 : Cond.methodLink "WreckFieldModel" 165 ⟨"WreckFieldModel", "isSheet", "(I)Z"⟩ ∈ px_good := px_mem_good (px_t6 (i := 127) rfl) rfl
theorem wd_729 : Cond.static ⟨"WreckFieldModel", "isSheet", "(I)Z"⟩ ∈ px_good := px_mem_good (px_t6 (i := 128) rfl) rfl
theorem wd_730 : Cond.code yX12_tape cX12_tape 4 (some .int) ∈ px_good := px_mem_good (px_t6 (i := 118) rfl) rfl
theorem wd_731 : Cond.methodLink "WreckFieldModel" 168 ⟨"WreckFieldModel", "tape", "(III)I"⟩ ∈ px_good := px_mem_good (px_t6 (i := 130) rfl) rfl
theorem wd_732 : Cond.instanceMethod ⟨"WreckFieldModel", "tape", "(III)I"⟩ ∈ px_good := px_mem_good (px_t6 (i := 116) rfl) rfl
theorem wd_733 : Cond.selects "WreckFieldModel" ⟨"WreckFieldModel", "tape", "(III)I"⟩ ⟨"WreckFieldModel", "tape", "(III)I"⟩ ∈ px_good := px_mem_good (px_t6 (i := 117) rfl) rfl
theorem wd_734 : Cond.constant "WreckFieldModel" 171 32768 ∈ px_good := px_mem_good (px_t6 (i := 163) rfl) rfl
theorem wd_735 : Cond.constant "WreckFieldModel" 172 46340 ∈ px_good := px_mem_good (px_t6 (i := 164) rfl) rfl
theorem wd_736 : Cond.code yX12_root cX12_root 4 (some .int) ∈ px_good := px_mem_good (px_t6 (i := 162) rfl) rfl
theorem wd_737 : Cond.methodLink "WreckFieldModel" 173 ⟨"WreckFieldModel", "root", "(I)I"⟩ ∈ px_good := px_mem_good (px_t6 (i := 160) rfl) rfl
theorem wd_738 : Cond.static ⟨"WreckFieldModel", "root", "(I)I"⟩ ∈ px_good := px_mem_good (px_t6 (i := 161) rfl) rfl
theorem wd_739 : Cond.code yX12_miss cX12_miss 4 (some .int) ∈ px_good := px_mem_good (px_t6 (i := 159) rfl) rfl
theorem wd_740 : Cond.methodLink "WreckFieldModel" 177 ⟨"WreckFieldModel", "miss", "(I)I"⟩ ∈ px_good := px_mem_good (px_t6 (i := 156) rfl) rfl
theorem wd_741 : Cond.instanceMethod ⟨"WreckFieldModel", "miss", "(I)I"⟩ ∈ px_good := px_mem_good (px_t6 (i := 158) rfl) rfl
theorem wd_742 : Cond.selects "WreckFieldModel" ⟨"WreckFieldModel", "miss", "(I)I"⟩ ⟨"WreckFieldModel", "miss", "(I)I"⟩ ∈ px_good := px_mem_good (px_sel (y := ⟨"WreckFieldModel", "miss", "(I)I"⟩) (n := 69) (px_p3 (i := 14) rfl)) rfl
theorem wd_743 : Cond.code yX12_misses cX12_misses 7 (some .long) ∈ px_good := px_mem_good (px_t6 (i := 155) rfl) rfl
theorem wd_744 : Cond.methodLink "WreckFieldModel" 180 ⟨"WreckFieldModel", "misses", "(I)J"⟩ ∈ px_good := px_mem_good (px_t6 (i := 152) rfl) rfl
theorem wd_745 : Cond.instanceMethod ⟨"WreckFieldModel", "misses", "(I)J"⟩ ∈ px_good := px_mem_good (px_t6 (i := 154) rfl) rfl
theorem wd_746 : Cond.selects "WreckFieldModel" ⟨"WreckFieldModel", "misses", "(I)J"⟩ ⟨"WreckFieldModel", "misses", "(I)J"⟩ ∈ px_good := px_mem_good (px_sel (y := ⟨"WreckFieldModel", "misses", "(I)J"⟩) (n := 69) (px_p3 (i := 13) rfl)) rfl
theorem wd_747 : Cond.code yX12_goes cX12_goes 13 none ∈ px_good := px_mem_good (px_t6 (i := 151) rfl) rfl
theorem wd_748 : Cond.methodLink "WreckFieldModel" 184 ⟨"WreckFieldModel", "goes", "(II)V"⟩ ∈ px_good := px_mem_good (px_t6 (i := 148) rfl) rfl
theorem wd_749 : Cond.instanceMethod ⟨"WreckFieldModel", "goes", "(II)V"⟩ ∈ px_good := px_mem_good (px_t6 (i := 150) rfl) rfl
theorem wd_750 : Cond.selects "WreckFieldModel" ⟨"WreckFieldModel", "goes", "(II)V"⟩ ⟨"WreckFieldModel", "goes", "(II)V"⟩ ∈ px_good := px_mem_good (px_sel (y := ⟨"WreckFieldModel", "goes", "(II)V"⟩) (n := 69) (px_p3 (i := 12) rfl)) rfl
theorem wd_751 : Cond.code yX12_fits cX12_fits 4 none ∈ px_good := px_mem_good (px_t6 (i := 147) rfl) rfl
theorem wd_752 : Cond.methodLink "WreckFieldModel" 188 ⟨"WreckFieldModel", "fits", "()V"⟩ ∈ px_good := px_mem_good (px_t6 (i := 144) rfl) rfl
theorem wd_753 : Cond.instanceMethod ⟨"WreckFieldModel", "fits", "()V"⟩ ∈ px_good := px_mem_good (px_t6 (i := 146) rfl) rfl
theorem wd_754 : Cond.selects "WreckFieldModel" ⟨"WreckFieldModel", "fits", "()V"⟩ ⟨"WreckFieldModel", "fits", "()V"⟩ ∈ px_good := px_mem_good (px_sel (y := ⟨"WreckFieldModel", "fits", "()V"⟩) (n := 69) (px_p3 (i := 11) rfl)) rfl
theorem wd_755 : Cond.constantLong "WreckFieldModel" 191 (-4611686018427387904) ∈ px_good := px_mem_good (px_t6 (i := 139) rfl) rfl
theorem wd_756 : Cond.code yX12_knows cX12_knows 5 none ∈ px_good := px_mem_good (px_t6 (i := 143) rfl) rfl
theorem wd_757 : Cond.methodLink "WreckFieldModel" 193 ⟨"WreckFieldModel", "knows", "()V"⟩ ∈ px_good := px_mem_good (px_t6 (i := 140) rfl) rfl
theorem wd_758 : Cond.instanceMethod ⟨"WreckFieldModel", "knows", "()V"⟩ ∈ px_good := px_mem_good (px_t6 (i := 142) rfl) rfl
theorem wd_759 : Cond.selects "WreckFieldModel" ⟨"WreckFieldModel", "knows", "()V"⟩ ⟨"WreckFieldModel", "knows", "()V"⟩ ∈ px_good := px_mem_good (px_sel (y := ⟨"WreckFieldModel", "knows", "()V"⟩) (n := 69) (px_p3 (i := 10) rfl)) rfl
theorem wd_760 : Cond.code yX12_isFind cX12_isFind 2 (some .boolean) ∈ px_good := px_mem_good (px_t6 (i := 188) rfl) rfl
theorem wd_761 : Cond.methodLink "WreckFieldModel" 196 ⟨"WreckFieldModel", "isFind", "(I)Z"⟩ ∈ px_good := px_mem_good (px_t6 (i := 185) rfl) rfl
theorem wd_762 : Cond.instanceMethod ⟨"WreckFieldModel", "isFind", "(I)Z"⟩ ∈ px_good := px_mem_good (px_t6 (i := 187) rfl) rfl
theorem wd_763 : Cond.selects "WreckFieldModel" ⟨"WreckFieldModel", "isFind", "(I)Z"⟩ ⟨"WreckFieldModel", "isFind", "(I)Z"⟩ ∈ px_good := px_mem_good (px_sel (y := ⟨"WreckFieldModel", "isFind", "(I)Z"⟩) (n := 69) (px_p4 (i := 0) rfl)) rfl
theorem wd_764 : Cond.code yX12_isTimber cX12_isTimber 2 (some .boolean) ∈ px_good := px_mem_good (px_t6 (i := 184) rfl) rfl
theorem wd_765 : Cond.methodLink "WreckFieldModel" 199 ⟨"WreckFieldModel", "isTimber", "(I)Z"⟩ ∈ px_good := px_mem_good (px_t6 (i := 181) rfl) rfl
theorem wd_766 : Cond.instanceMethod ⟨"WreckFieldModel", "isTimber", "(I)Z"⟩ ∈ px_good := px_mem_good (px_t6 (i := 183) rfl) rfl
theorem wd_767 : Cond.selects "WreckFieldModel" ⟨"WreckFieldModel", "isTimber", "(I)Z"⟩ ⟨"WreckFieldModel", "isTimber", "(I)Z"⟩ ∈ px_good := px_mem_good (px_sel (y := ⟨"WreckFieldModel", "isTimber", "(I)Z"⟩) (n := 69) (px_p3 (i := 15) rfl)) rfl
theorem wd_768 : Cond.code yX12_weeks cX12_weeks 2 (some .int) ∈ px_good := px_mem_good (px_t6 (i := 196) rfl) rfl
theorem wd_769 : Cond.methodLink "WreckFieldModel" 202 ⟨"WreckFieldModel", "weeks", "(I)I"⟩ ∈ px_good := px_mem_good (px_t6 (i := 193) rfl) rfl
theorem wd_770 : Cond.instanceMethod ⟨"WreckFieldModel", "weeks", "(I)I"⟩ ∈ px_good := px_mem_good (px_t6 (i := 195) rfl) rfl
theorem wd_771 : Cond.selects "WreckFieldModel" ⟨"WreckFieldModel", "weeks", "(I)I"⟩ ⟨"WreckFieldModel", "weeks", "(I)I"⟩ ∈ px_good := px_mem_good (px_sel (y := ⟨"WreckFieldModel", "weeks", "(I)I"⟩) (n := 69) (px_p4 (i := 1) rfl)) rfl
theorem wd_772 : Cond.fieldLink "WreckFieldModel" 205 "WreckFieldModel" "tanks" "I" ∈ px_good := px_mem_good (px_t5 (i := 162) rfl) rfl
theorem wd_773 : Cond.code yX12_inTank cX12_inTank 5 (some .int) ∈ px_good := px_mem_good (px_t6 (i := 208) rfl) rfl
theorem wd_774 : Cond.methodLink "WreckFieldModel" 208 ⟨"WreckFieldModel", "inTank", "(IZ)I"⟩ ∈ px_good := px_mem_good (px_t6 (i := 205) rfl) rfl
theorem wd_775 : Cond.instanceMethod ⟨"WreckFieldModel", "inTank", "(IZ)I"⟩ ∈ px_good := px_mem_good (px_t6 (i := 207) rfl) rfl
theorem wd_776 : Cond.selects "WreckFieldModel" ⟨"WreckFieldModel", "inTank", "(IZ)I"⟩ ⟨"WreckFieldModel", "inTank", "(IZ)I"⟩ ∈ px_good := px_mem_good (px_sel (y := ⟨"WreckFieldModel", "inTank", "(IZ)I"⟩) (n := 69) (px_p4 (i := 2) rfl)) rfl
theorem wd_777 : Cond.code yX12_isUnder cX12_isUnder 2 (some .boolean) ∈ px_good := px_mem_good (px_t6 (i := 222) rfl) rfl
theorem wd_778 : Cond.methodLink "WreckFieldModel" 212 ⟨"WreckFieldModel", "isUnder", "(II)Z"⟩ ∈ px_good := px_mem_good (px_t6 (i := 220) rfl) rfl
theorem wd_779 : Cond.static ⟨"WreckFieldModel", "isUnder", "(II)Z"⟩ ∈ px_good := px_mem_good (px_t6 (i := 221) rfl) rfl
theorem wd_780 : Cond.fieldLink "WreckFieldModel" 216 "WreckFieldModel" "bars" "I" ∈ px_good := px_mem_good (px_t5 (i := 178) rfl) rfl
theorem wd_781 : Cond.code yX12_worked cX12_worked 7 (some .int) ∈ px_good := px_mem_good (px_t6 (i := 226) rfl) rfl
theorem wd_782 : Cond.methodLink "WreckFieldModel" 219 ⟨"WreckFieldModel", "worked", "(III)I"⟩ ∈ px_good := px_mem_good (px_t6 (i := 223) rfl) rfl
theorem wd_783 : Cond.instanceMethod ⟨"WreckFieldModel", "worked", "(III)I"⟩ ∈ px_good := px_mem_good (px_t6 (i := 225) rfl) rfl
theorem wd_784 : Cond.selects "WreckFieldModel" ⟨"WreckFieldModel", "worked", "(III)I"⟩ ⟨"WreckFieldModel", "worked", "(III)I"⟩ ∈ px_good := px_mem_good (px_sel (y := ⟨"WreckFieldModel", "worked", "(III)I"⟩) (n := 69) (px_p4 (i := 4) rfl)) rfl
theorem wd_785 : Cond.code yX12_isDay cX12_isDay 1 (some .boolean) ∈ px_good := px_mem_good (px_t6 (i := 215) rfl) rfl
theorem wd_786 : Cond.methodLink "WreckFieldModel" 222 ⟨"WreckFieldModel", "isDay", "(I)Z"⟩ ∈ px_good := px_mem_good (px_t6 (i := 213) rfl) rfl
theorem wd_787 : Cond.static ⟨"WreckFieldModel", "isDay", "(I)Z"⟩ ∈ px_good := px_mem_good (px_t6 (i := 214) rfl) rfl
theorem wd_788 : Cond.code yX12_hinders cX12_hinders 5 (some .int) ∈ px_good := px_mem_good (px_t6 (i := 219) rfl) rfl
theorem wd_789 : Cond.methodLink "WreckFieldModel" 225 ⟨"WreckFieldModel", "hinders", "(III)I"⟩ ∈ px_good := px_mem_good (px_t6 (i := 216) rfl) rfl
theorem wd_790 : Cond.instanceMethod ⟨"WreckFieldModel", "hinders", "(III)I"⟩ ∈ px_good := px_mem_good (px_t6 (i := 218) rfl) rfl
theorem wd_791 : Cond.selects "WreckFieldModel" ⟨"WreckFieldModel", "hinders", "(III)I"⟩ ⟨"WreckFieldModel", "hinders", "(III)I"⟩ ∈ px_good := px_mem_good (px_sel (y := ⟨"WreckFieldModel", "hinders", "(III)I"⟩) (n := 69) (px_p4 (i := 3) rfl)) rfl
theorem wd_792 : Cond.code yX12_why cX12_why 4 (some .int) ∈ px_good := px_mem_good (px_t6 (i := 212) rfl) rfl
theorem wd_793 : Cond.methodLink "WreckFieldModel" 228 ⟨"WreckFieldModel", "why", "(III)I"⟩ ∈ px_good := px_mem_good (px_t6 (i := 238) rfl) rfl
theorem wd_794 : Cond.instanceMethod ⟨"WreckFieldModel", "why", "(III)I"⟩ ∈ px_good := px_mem_good (px_t6 (i := 210) rfl) rfl
theorem wd_795 : Cond.selects "WreckFieldModel" ⟨"WreckFieldModel", "why", "(III)I"⟩ ⟨"WreckFieldModel", "why", "(III)I"⟩ ∈ px_good := px_mem_good (px_t6 (i := 211) rfl) rfl
theorem wd_796 : Cond.fieldLink "WreckFieldModel" 231 "WreckFieldModel" "divers" "I" ∈ px_good := px_mem_good (px_t5 (i := 165) rfl) rfl
theorem wd_797 : Cond.fieldLink "WreckFieldModel" 234 "WreckFieldModel" "rows" "I" ∈ px_good := px_mem_good (px_t5 (i := 166) rfl) rfl
theorem wd_798 : Cond.code yX12_rowOf cX12_rowOf 3 (some .int) ∈ px_good := px_mem_good (px_t7 (i := 27) rfl) rfl
theorem wd_799 : Cond.methodLink "WreckFieldModel" 237 ⟨"WreckFieldModel", "rowOf", "(I)I"⟩ ∈ px_good := px_mem_good (px_t7 (i := 24) rfl) rfl
theorem wd_800 : Cond.instanceMethod ⟨"WreckFieldModel", "rowOf", "(I)I"⟩ ∈ px_good := px_mem_good (px_t7 (i := 26) rfl) rfl
theorem wd_801 : Cond.selects "WreckFieldModel" ⟨"WreckFieldModel", "rowOf", "(I)I"⟩ ⟨"WreckFieldModel", "rowOf", "(I)I"⟩ ∈ px_good := px_mem_good (px_sel (y := ⟨"WreckFieldModel", "rowOf", "(I)I"⟩) (n := 69) (px_p4 (i := 8) rfl)) rfl
theorem wd_802 : Cond.fieldLink "WreckFieldModel" 240 "WreckFieldModel" "dives" "I" ∈ px_good := px_mem_good (px_t5 (i := 170) rfl) rfl
theorem wd_803 : Cond.code yX12_clashes cX12_clashes 10 (some .int) ∈ px_good := px_mem_good (px_t7 (i := 31) rfl) rfl
theorem wd_804 : Cond.methodLink "WreckFieldModel" 243 ⟨"WreckFieldModel", "clashes", "(IIIII)I"⟩ ∈ px_good := px_mem_good (px_t7 (i := 28) rfl) rfl
theorem wd_805 : Cond.instanceMethod ⟨"WreckFieldModel", "clashes", "(IIIII)I"⟩ ∈ px_good := px_mem_good (px_t7 (i := 30) rfl) rfl
theorem wd_806 : Cond.selects "WreckFieldModel" ⟨"WreckFieldModel", "clashes", "(IIIII)I"⟩ ⟨"WreckFieldModel", "clashes", "(IIIII)I"⟩ ∈ px_good := px_mem_good (px_sel (y := ⟨"WreckFieldModel", "clashes", "(IIIII)I"⟩) (n := 69) (px_p4 (i := 9) rfl)) rfl
theorem wd_807 : Cond.code yX12_isOf cX12_isOf 4 (some .boolean) ∈ px_good := px_mem_good (px_t7 (i := 35) rfl) rfl
theorem wd_808 : Cond.methodLink "WreckFieldModel" 247 ⟨"WreckFieldModel", "isOf", "(III)Z"⟩ ∈ px_good := px_mem_good (px_t7 (i := 32) rfl) rfl
theorem wd_809 : Cond.instanceMethod ⟨"WreckFieldModel", "isOf", "(III)Z"⟩ ∈ px_good := px_mem_good (px_t7 (i := 34) rfl) rfl
theorem wd_810 : Cond.selects "WreckFieldModel" ⟨"WreckFieldModel", "isOf", "(III)Z"⟩ ⟨"WreckFieldModel", "isOf", "(III)Z"⟩ ∈ px_good := px_mem_good (px_sel (y := ⟨"WreckFieldModel", "isOf", "(III)Z"⟩) (n := 69) (px_p4 (i := 10) rfl)) rfl
theorem wd_811 : Cond.code yX12_restOf cX12_restOf 3 (some .int) ∈ px_good := px_mem_good (px_t7 (i := 39) rfl) rfl
theorem wd_812 : Cond.methodLink "WreckFieldModel" 250 ⟨"WreckFieldModel", "restOf", "(I)I"⟩ ∈ px_good := px_mem_good (px_t7 (i := 36) rfl) rfl
theorem wd_813 : Cond.instanceMethod ⟨"WreckFieldModel", "restOf", "(I)I"⟩ ∈ px_good := px_mem_good (px_t7 (i := 38) rfl) rfl
theorem wd_814 : Cond.selects "WreckFieldModel" ⟨"WreckFieldModel", "restOf", "(I)I"⟩ ⟨"WreckFieldModel", "restOf", "(I)I"⟩ ∈ px_good := px_mem_good (px_sel (y := ⟨"WreckFieldModel", "restOf", "(I)I"⟩) (n := 69) (px_p4 (i := 11) rfl)) rfl
theorem wd_815 : Cond.code yX12_minutesOn cX12_minutesOn 5 (some .int) ∈ px_good := px_mem_good (px_t7 (i := 43) rfl) rfl
theorem wd_816 : Cond.methodLink "WreckFieldModel" 253 ⟨"WreckFieldModel", "minutesOn", "(II)I"⟩ ∈ px_good := px_mem_good (px_t7 (i := 40) rfl) rfl
theorem wd_817 : Cond.instanceMethod ⟨"WreckFieldModel", "minutesOn", "(II)I"⟩ ∈ px_good := px_mem_good (px_t7 (i := 42) rfl) rfl
theorem wd_818 : Cond.selects "WreckFieldModel" ⟨"WreckFieldModel", "minutesOn", "(II)I"⟩ ⟨"WreckFieldModel", "minutesOn", "(II)I"⟩ ∈ px_good := px_mem_good (px_sel (y := ⟨"WreckFieldModel", "minutesOn", "(II)I"⟩) (n := 69) (px_p4 (i := 12) rfl)) rfl
theorem wd_819 : Cond.constant "WreckFieldModel" 257 1439999 ∈ px_good := px_mem_good (px_t7 (i := 19) rfl) rfl
theorem wd_820 : Cond.code yX12_isDive cX12_isDive 7 (some .boolean) ∈ px_good := px_mem_good (px_t7 (i := 18) rfl) rfl
theorem wd_821 : Cond.methodLink "WreckFieldModel" 258 ⟨"WreckFieldModel", "isDive", "(IIIII)Z"⟩ ∈ px_good := px_mem_good (px_t7 (i := 15) rfl) rfl
theorem wd_822 : Cond.instanceMethod ⟨"WreckFieldModel", "isDive", "(IIIII)Z"⟩ ∈ px_good := px_mem_good (px_t7 (i := 17) rfl) rfl
theorem wd_823 : Cond.selects "WreckFieldModel" ⟨"WreckFieldModel", "isDive", "(IIIII)Z"⟩ ⟨"WreckFieldModel", "isDive", "(IIIII)Z"⟩ ∈ px_good := px_mem_good (px_sel (y := ⟨"WreckFieldModel", "isDive", "(IIIII)Z"⟩) (n := 69) (px_p4 (i := 6) rfl)) rfl
theorem wd_824 : Cond.code yX12_refused cX12_refused 7 (some .int) ∈ px_good := px_mem_good (px_t7 (i := 23) rfl) rfl
theorem wd_825 : Cond.methodLink "WreckFieldModel" 262 ⟨"WreckFieldModel", "refused", "(IIIII)I"⟩ ∈ px_good := px_mem_good (px_t7 (i := 20) rfl) rfl
theorem wd_826 : Cond.instanceMethod ⟨"WreckFieldModel", "refused", "(IIIII)I"⟩ ∈ px_good := px_mem_good (px_t7 (i := 22) rfl) rfl
theorem wd_827 : Cond.selects "WreckFieldModel" ⟨"WreckFieldModel", "refused", "(IIIII)I"⟩ ⟨"WreckFieldModel", "refused", "(IIIII)I"⟩ ∈ px_good := px_mem_good (px_sel (y := ⟨"WreckFieldModel", "refused", "(IIIII)I"⟩) (n := 69) (px_p4 (i := 7) rfl)) rfl
theorem wd_828 : Cond.constant "WreckFieldModel" 265 1440000 ∈ px_good := px_mem_good (px_t7 (i := 56) rfl) rfl
theorem wd_829 : Cond.fieldLink "WreckFieldModel" 266 "WreckFieldModel" "textSize" "I" ∈ px_good := px_mem_good (px_t5 (i := 195) rfl) rfl
theorem wd_830 : Cond.fieldLink "WreckFieldModel" 269 "WreckFieldModel" "at" "I" ∈ px_good := px_mem_good (px_t5 (i := 197) rfl) rfl
theorem wd_831 : Cond.code yX12_byteAt cX12_byteAt 2 (some .int) ∈ px_good := px_mem_good (px_t7 (i := 77) rfl) rfl
theorem wd_832 : Cond.methodLink "WreckFieldModel" 272 ⟨"WreckFieldModel", "byteAt", "(I)I"⟩ ∈ px_good := px_mem_good (px_t7 (i := 74) rfl) rfl
theorem wd_833 : Cond.instanceMethod ⟨"WreckFieldModel", "byteAt", "(I)I"⟩ ∈ px_good := px_mem_good (px_t7 (i := 76) rfl) rfl
theorem wd_834 : Cond.selects "WreckFieldModel" ⟨"WreckFieldModel", "byteAt", "(I)I"⟩ ⟨"WreckFieldModel", "byteAt", "(I)I"⟩ ∈ px_good := px_mem_good (px_sel (y := ⟨"WreckFieldModel", "byteAt", "(I)I"⟩) (n := 69) (px_p4 (i := 15) rfl)) rfl
theorem wd_835 : Cond.fieldLink "WreckFieldModel" 275 "WreckFieldModel" "begin" "I" ∈ px_good := px_mem_good (px_t5 (i := 198) rfl) rfl
theorem wd_836 : Cond.fieldLink "WreckFieldModel" 278 "WreckFieldModel" "token" "I" ∈ px_good := px_mem_good (px_t5 (i := 199) rfl) rfl
theorem wd_837 : Cond.code yX12_isLetter cX12_isLetter 1 (some .boolean) ∈ px_good := px_mem_good (px_t7 (i := 80) rfl) rfl
theorem wd_838 : Cond.methodLink "WreckFieldModel" 281 ⟨"WreckFieldModel", "isLetter", "(I)Z"⟩ ∈ px_good := px_mem_good (px_t7 (i := 78) rfl) rfl
theorem wd_839 : Cond.static ⟨"WreckFieldModel", "isLetter", "(I)Z"⟩ ∈ px_good := px_mem_good (px_t7 (i := 79) rfl) rfl
theorem wd_840 : Cond.code yX12_word cX12_word 5 none ∈ px_good := px_mem_good (px_t7 (i := 84) rfl) rfl
theorem wd_841 : Cond.methodLink "WreckFieldModel" 284 ⟨"WreckFieldModel", "word", "()V"⟩ ∈ px_good := px_mem_good (px_t7 (i := 81) rfl) rfl
theorem wd_842 : Cond.instanceMethod ⟨"WreckFieldModel", "word", "()V"⟩ ∈ px_good := px_mem_good (px_t7 (i := 83) rfl) rfl
theorem wd_843 : Cond.selects "WreckFieldModel" ⟨"WreckFieldModel", "word", "()V"⟩ ⟨"WreckFieldModel", "word", "()V"⟩ ∈ px_good := px_mem_good (px_sel (y := ⟨"WreckFieldModel", "word", "()V"⟩) (n := 69) (px_p5 (i := 0) rfl)) rfl
theorem wd_844 : Cond.code yX12_isDigit cX12_isDigit 1 (some .boolean) ∈ px_good := px_mem_good (px_t7 (i := 87) rfl) rfl
theorem wd_845 : Cond.methodLink "WreckFieldModel" 287 ⟨"WreckFieldModel", "isDigit", "(I)Z"⟩ ∈ px_good := px_mem_good (px_t7 (i := 85) rfl) rfl
theorem wd_846 : Cond.static ⟨"WreckFieldModel", "isDigit", "(I)Z"⟩ ∈ px_good := px_mem_good (px_t7 (i := 86) rfl) rfl
theorem wd_847 : Cond.code yX12_number cX12_number 1 none ∈ px_good := px_mem_good (px_t7 (i := 91) rfl) rfl
theorem wd_848 : Cond.methodLink "WreckFieldModel" 290 ⟨"WreckFieldModel", "number", "()V"⟩ ∈ px_good := px_mem_good (px_t7 (i := 88) rfl) rfl
theorem wd_849 : Cond.instanceMethod ⟨"WreckFieldModel", "number", "()V"⟩ ∈ px_good := px_mem_good (px_t7 (i := 90) rfl) rfl
theorem wd_850 : Cond.selects "WreckFieldModel" ⟨"WreckFieldModel", "number", "()V"⟩ ⟨"WreckFieldModel", "number", "()V"⟩ ∈ px_good := px_mem_good (px_sel (y := ⟨"WreckFieldModel", "number", "()V"⟩) (n := 69) (px_p5 (i := 1) rfl)) rfl
theorem wd_851 : Cond.fieldLink "WreckFieldModel" 293 "WreckFieldModel" "told" "I" ∈ px_good := px_mem_good (px_t5 (i := 200) rfl) rfl
theorem wd_852 : Cond.fieldLink "WreckFieldModel" 296 "WreckFieldModel" "wrong" "I" ∈ px_good := px_mem_good (px_t5 (i := 201) rfl) rfl
theorem wd_853 : Cond.code yX12_isWrong cX12_isWrong 1 (some .boolean) ∈ px_good := px_mem_good (px_t7 (i := 95) rfl) rfl
theorem wd_854 : Cond.methodLink "WreckFieldModel" 299 ⟨"WreckFieldModel", "isWrong", "()Z"⟩ ∈ px_good := px_mem_good (px_t7 (i := 92) rfl) rfl
theorem wd_855 : Cond.instanceMethod ⟨"WreckFieldModel", "isWrong", "()Z"⟩ ∈ px_good := px_mem_good (px_t7 (i := 94) rfl) rfl
theorem wd_856 : Cond.selects "WreckFieldModel" ⟨"WreckFieldModel", "isWrong", "()Z"⟩ ⟨"WreckFieldModel", "isWrong", "()Z"⟩ ∈ px_good := px_mem_good (px_sel (y := ⟨"WreckFieldModel", "isWrong", "()Z"⟩) (n := 69) (px_p5 (i := 2) rfl)) rfl
theorem wd_857 : Cond.code yX12_cannot cX12_cannot 1 none ∈ px_good := px_mem_good (px_t7 (i := 99) rfl) rfl
theorem wd_858 : Cond.methodLink "WreckFieldModel" 303 ⟨"WreckFieldModel", "cannot", "()V"⟩ ∈ px_good := px_mem_good (px_t7 (i := 96) rfl) rfl
theorem wd_859 : Cond.instanceMethod ⟨"WreckFieldModel", "cannot", "()V"⟩ ∈ px_good := px_mem_good (px_t7 (i := 98) rfl) rfl
theorem wd_860 : Cond.selects "WreckFieldModel" ⟨"WreckFieldModel", "cannot", "()V"⟩ ⟨"WreckFieldModel", "cannot", "()V"⟩ ∈ px_good := px_mem_good (px_sel (y := ⟨"WreckFieldModel", "cannot", "()V"⟩) (n := 69) (px_p5 (i := 3) rfl)) rfl
theorem wd_861 : Cond.code yX12_next cX12_next 3 none ∈ px_good := px_mem_good (px_t7 (i := 73) rfl) rfl
theorem wd_862 : Cond.methodLink "WreckFieldModel" 306 ⟨"WreckFieldModel", "next", "()V"⟩ ∈ px_good := px_mem_good (px_t7 (i := 70) rfl) rfl
theorem wd_863 : Cond.instanceMethod ⟨"WreckFieldModel", "next", "()V"⟩ ∈ px_good := px_mem_good (px_t7 (i := 72) rfl) rfl
theorem wd_864 : Cond.selects "WreckFieldModel" ⟨"WreckFieldModel", "next", "()V"⟩ ⟨"WreckFieldModel", "next", "()V"⟩ ∈ px_good := px_mem_good (px_sel (y := ⟨"WreckFieldModel", "next", "()V"⟩) (n := 69) (px_p4 (i := 14) rfl)) rfl
theorem wd_865 : Cond.fieldLink "WreckFieldModel" 309 "WreckFieldModel" "open" "I" ∈ px_good := px_mem_good (px_t5 (i := 202) rfl) rfl
theorem wd_866 : Cond.fieldLink "WreckFieldModel" 312 "WreckFieldModel" "reading" "I" ∈ px_good := px_mem_good (px_t5 (i := 196) rfl) rfl
theorem wd_867 : Cond.fieldLink "WreckFieldModel" 315 "WreckFieldModel" "codes" "I" ∈ px_good := px_mem_good (px_t5 (i := 203) rfl) rfl
theorem wd_868 : Cond.code yX12_need cX12_need 2 none ∈ px_good := px_mem_good (px_t7 (i := 103) rfl) rfl
theorem wd_869 : Cond.methodLink "WreckFieldModel" 318 ⟨"WreckFieldModel", "need", "(I)V"⟩ ∈ px_good := px_mem_good (px_t7 (i := 100) rfl) rfl
theorem wd_870 : Cond.instanceMethod ⟨"WreckFieldModel", "need", "(I)V"⟩ ∈ px_good := px_mem_good (px_t7 (i := 102) rfl) rfl
theorem wd_871 : Cond.selects "WreckFieldModel" ⟨"WreckFieldModel", "need", "(I)V"⟩ ⟨"WreckFieldModel", "need", "(I)V"⟩ ∈ px_good := px_mem_good (px_sel (y := ⟨"WreckFieldModel", "need", "(I)V"⟩) (n := 69) (px_p5 (i := 4) rfl)) rfl
theorem wd_872 : Cond.code yX12_either cX12_either 1 none ∈ px_good := px_mem_good (px_t7 (i := 107) rfl) rfl
theorem wd_873 : Cond.methodLink "WreckFieldModel" 322 ⟨"WreckFieldModel", "either", "()V"⟩ ∈ px_good := px_mem_good (px_t7 (i := 104) rfl) rfl
theorem wd_874 : Cond.instanceMethod ⟨"WreckFieldModel", "either", "()V"⟩ ∈ px_good := px_mem_good (px_t7 (i := 106) rfl) rfl
theorem wd_875 : Cond.selects "WreckFieldModel" ⟨"WreckFieldModel", "either", "()V"⟩ ⟨"WreckFieldModel", "either", "()V"⟩ ∈ px_good := px_mem_good (px_sel (y := ⟨"WreckFieldModel", "either", "()V"⟩) (n := 69) (px_p5 (i := 5) rfl)) rfl
theorem wd_876 : Cond.code yX12_both cX12_both 1 none ∈ px_good := px_mem_good (px_t7 (i := 111) rfl) rfl
theorem wd_877 : Cond.methodLink "WreckFieldModel" 325 ⟨"WreckFieldModel", "both", "()V"⟩ ∈ px_good := px_mem_good (px_t7 (i := 108) rfl) rfl
theorem wd_878 : Cond.instanceMethod ⟨"WreckFieldModel", "both", "()V"⟩ ∈ px_good := px_mem_good (px_t7 (i := 110) rfl) rfl
theorem wd_879 : Cond.selects "WreckFieldModel" ⟨"WreckFieldModel", "both", "()V"⟩ ⟨"WreckFieldModel", "both", "()V"⟩ ∈ px_good := px_mem_good (px_sel (y := ⟨"WreckFieldModel", "both", "()V"⟩) (n := 69) (px_p5 (i := 6) rfl)) rfl
theorem wd_880 : Cond.code yX12_emit cX12_emit 3 none ∈ px_good := px_mem_good (px_t7 (i := 123) rfl) rfl
theorem wd_881 : Cond.methodLink "WreckFieldModel" 328 ⟨"WreckFieldModel", "emit", "(II)V"⟩ ∈ px_good := px_mem_good (px_t7 (i := 120) rfl) rfl
theorem wd_882 : Cond.instanceMethod ⟨"WreckFieldModel", "emit", "(II)V"⟩ ∈ px_good := px_mem_good (px_t7 (i := 122) rfl) rfl
theorem wd_883 : Cond.selects "WreckFieldModel" ⟨"WreckFieldModel", "emit", "(II)V"⟩ ⟨"WreckFieldModel", "emit", "(II)V"⟩ ∈ px_good := px_mem_good (px_sel (y := ⟨"WreckFieldModel", "emit", "(II)V"⟩) (n := 69) (px_p5 (i := 9) rfl)) rfl
theorem wd_884 : Cond.code yX12_not cX12_not 2 none ∈ px_good := px_mem_good (px_t7 (i := 115) rfl) rfl
theorem wd_885 : Cond.methodLink "WreckFieldModel" 331 ⟨"WreckFieldModel", "not", "()V"⟩ ∈ px_good := px_mem_good (px_t7 (i := 112) rfl) rfl
theorem wd_886 : Cond.instanceMethod ⟨"WreckFieldModel", "not", "()V"⟩ ∈ px_good := px_mem_good (px_t7 (i := 114) rfl) rfl
theorem wd_887 : Cond.selects "WreckFieldModel" ⟨"WreckFieldModel", "not", "()V"⟩ ⟨"WreckFieldModel", "not", "()V"⟩ ∈ px_good := px_mem_good (px_sel (y := ⟨"WreckFieldModel", "not", "()V"⟩) (n := 69) (px_p5 (i := 7) rfl)) rfl
theorem wd_888 : Cond.code yX12_opens cX12_opens 1 none ∈ px_good := px_mem_good (px_t7 (i := 119) rfl) rfl
theorem wd_889 : Cond.methodLink "WreckFieldModel" 334 ⟨"WreckFieldModel", "opens", "()V"⟩ ∈ px_good := px_mem_good (px_t7 (i := 116) rfl) rfl
theorem wd_890 : Cond.instanceMethod ⟨"WreckFieldModel", "opens", "()V"⟩ ∈ px_good := px_mem_good (px_t7 (i := 118) rfl) rfl
theorem wd_891 : Cond.selects "WreckFieldModel" ⟨"WreckFieldModel", "opens", "()V"⟩ ⟨"WreckFieldModel", "opens", "()V"⟩ ∈ px_good := px_mem_good (px_sel (y := ⟨"WreckFieldModel", "opens", "()V"⟩) (n := 69) (px_p5 (i := 8) rfl)) rfl
theorem wd_892 : Cond.code yX12_added cX12_added 2 none ∈ px_good := px_mem_good (px_t7 (i := 127) rfl) rfl
theorem wd_893 : Cond.methodLink "WreckFieldModel" 337 ⟨"WreckFieldModel", "added", "()V"⟩ ∈ px_good := px_mem_good (px_t7 (i := 124) rfl) rfl
theorem wd_894 : Cond.instanceMethod ⟨"WreckFieldModel", "added", "()V"⟩ ∈ px_good := px_mem_good (px_t7 (i := 126) rfl) rfl
theorem wd_895 : Cond.selects "WreckFieldModel" ⟨"WreckFieldModel", "added", "()V"⟩ ⟨"WreckFieldModel", "added", "()V"⟩ ∈ px_good := px_mem_good (px_sel (y := ⟨"WreckFieldModel", "added", "()V"⟩) (n := 69) (px_p5 (i := 10) rfl)) rfl
theorem wd_896 : Cond.code yX12_term cX12_term 1 none ∈ px_good := px_mem_good (px_t7 (i := 131) rfl) rfl
theorem wd_897 : Cond.methodLink "WreckFieldModel" 340 ⟨"WreckFieldModel", "term", "()V"⟩ ∈ px_good := px_mem_good (px_t7 (i := 128) rfl) rfl
theorem wd_898 : Cond.instanceMethod ⟨"WreckFieldModel", "term", "()V"⟩ ∈ px_good := px_mem_good (px_t7 (i := 130) rfl) rfl
theorem wd_899 : Cond.selects "WreckFieldModel" ⟨"WreckFieldModel", "term", "()V"⟩ ⟨"WreckFieldModel", "term", "()V"⟩ ∈ px_good := px_mem_good (px_sel (y := ⟨"WreckFieldModel", "term", "()V"⟩) (n := 69) (px_p5 (i := 11) rfl)) rfl
theorem wd_900 : Cond.code yX12_one cX12_one 1 none ∈ px_good := px_mem_good (px_t7 (i := 135) rfl) rfl
theorem wd_901 : Cond.methodLink "WreckFieldModel" 343 ⟨"WreckFieldModel", "one", "()V"⟩ ∈ px_good := px_mem_good (px_t7 (i := 132) rfl) rfl
theorem wd_902 : Cond.instanceMethod ⟨"WreckFieldModel", "one", "()V"⟩ ∈ px_good := px_mem_good (px_t7 (i := 134) rfl) rfl
theorem wd_903 : Cond.selects "WreckFieldModel" ⟨"WreckFieldModel", "one", "()V"⟩ ⟨"WreckFieldModel", "one", "()V"⟩ ∈ px_good := px_mem_good (px_sel (y := ⟨"WreckFieldModel", "one", "()V"⟩) (n := 69) (px_p5 (i := 12) rfl)) rfl
theorem wd_904 : Cond.fieldLink "WreckFieldModel" 346 "WreckFieldModel" "taped" "I" ∈ px_good := px_mem_good (px_t5 (i := 177) rfl) rfl
theorem wd_905 : Cond.constantLong "WreckFieldModel" 349 255 ∈ px_good := px_mem_good (px_t7 (i := 61) rfl) rfl
theorem wd_906 : Cond.code yX12_reads cX12_reads 2 (some .int) ∈ px_good := px_mem_good (px_t7 (i := 69) rfl) rfl
theorem wd_907 : Cond.methodLink "WreckFieldModel" 351 ⟨"WreckFieldModel", "reads", "()I"⟩ ∈ px_good := px_mem_good (px_t7 (i := 66) rfl) rfl
theorem wd_908 : Cond.instanceMethod ⟨"WreckFieldModel", "reads", "()I"⟩ ∈ px_good := px_mem_good (px_t7 (i := 68) rfl) rfl
theorem wd_909 : Cond.selects "WreckFieldModel" ⟨"WreckFieldModel", "reads", "()I"⟩ ⟨"WreckFieldModel", "reads", "()I"⟩ ∈ px_good := px_mem_good (px_sel (y := ⟨"WreckFieldModel", "reads", "()I"⟩) (n := 69) (px_p4 (i := 13) rfl)) rfl
theorem wd_910 : Cond.code yX12_named cX12_named 4 (some .int) ∈ px_good := px_mem_good (px_t6 (i := 230) rfl) rfl
theorem wd_911 : Cond.methodLink "WreckFieldModel" 355 ⟨"WreckFieldModel", "named", "(III)I"⟩ ∈ px_good := px_mem_good (px_t6 (i := 227) rfl) rfl
theorem wd_912 : Cond.instanceMethod ⟨"WreckFieldModel", "named", "(III)I"⟩ ∈ px_good := px_mem_good (px_t6 (i := 229) rfl) rfl
theorem wd_913 : Cond.selects "WreckFieldModel" ⟨"WreckFieldModel", "named", "(III)I"⟩ ⟨"WreckFieldModel", "named", "(III)I"⟩ ∈ px_good := px_mem_good (px_sel (y := ⟨"WreckFieldModel", "named", "(III)I"⟩) (n := 69) (px_p4 (i := 5) rfl)) rfl
theorem wd_914 : Cond.code yX12_two cX12_two 3 (some .int) ∈ px_good := px_mem_good (px_t6 (i := 233) rfl) rfl
theorem wd_915 : Cond.methodLink "WreckFieldModel" 358 ⟨"WreckFieldModel", "two", "(III)I"⟩ ∈ px_good := px_mem_good (px_t6 (i := 231) rfl) rfl
theorem wd_916 : Cond.static ⟨"WreckFieldModel", "two", "(III)I"⟩ ∈ px_good := px_mem_good (px_t6 (i := 232) rfl) rfl
theorem wd_917 : Cond.code yX12_shared cX12_shared 7 (some .int) ∈ px_good := px_mem_good (px_t7 (i := 151) rfl) rfl
theorem wd_918 : Cond.methodLink "WreckFieldModel" 361 ⟨"WreckFieldModel", "shared", "(III)I"⟩ ∈ px_good := px_mem_good (px_t7 (i := 148) rfl) rfl
theorem wd_919 : Cond.instanceMethod ⟨"WreckFieldModel", "shared", "(III)I"⟩ ∈ px_good := px_mem_good (px_t7 (i := 150) rfl) rfl
theorem wd_920 : Cond.selects "WreckFieldModel" ⟨"WreckFieldModel", "shared", "(III)I"⟩ ⟨"WreckFieldModel", "shared", "(III)I"⟩ ∈ px_good := px_mem_good (px_sel (y := ⟨"WreckFieldModel", "shared", "(III)I"⟩) (n := 69) (px_p5 (i := 14) rfl)) rfl
theorem wd_921 : Cond.code yX12_bonded cX12_bonded 9 (some .int) ∈ px_good := px_mem_good (px_t7 (i := 147) rfl) rfl
theorem wd_922 : Cond.methodLink "WreckFieldModel" 364 ⟨"WreckFieldModel", "bonded", "(III)I"⟩ ∈ px_good := px_mem_good (px_t7 (i := 144) rfl) rfl
theorem wd_923 : Cond.instanceMethod ⟨"WreckFieldModel", "bonded", "(III)I"⟩ ∈ px_good := px_mem_good (px_t7 (i := 146) rfl) rfl
theorem wd_924 : Cond.selects "WreckFieldModel" ⟨"WreckFieldModel", "bonded", "(III)I"⟩ ⟨"WreckFieldModel", "bonded", "(III)I"⟩ ∈ px_good := px_mem_good (px_sel (y := ⟨"WreckFieldModel", "bonded", "(III)I"⟩) (n := 69) (px_p5 (i := 13) rfl)) rfl
theorem wd_925 : Cond.code yX12_bestOf cX12_bestOf 5 (some .int) ∈ px_good := px_mem_good (px_t7 (i := 159) rfl) rfl
theorem wd_926 : Cond.methodLink "WreckFieldModel" 367 ⟨"WreckFieldModel", "bestOf", "(I)I"⟩ ∈ px_good := px_mem_good (px_t7 (i := 156) rfl) rfl
theorem wd_927 : Cond.instanceMethod ⟨"WreckFieldModel", "bestOf", "(I)I"⟩ ∈ px_good := px_mem_good (px_t7 (i := 158) rfl) rfl
theorem wd_928 : Cond.selects "WreckFieldModel" ⟨"WreckFieldModel", "bestOf", "(I)I"⟩ ⟨"WreckFieldModel", "bestOf", "(I)I"⟩ ∈ px_good := px_mem_good (px_sel (y := ⟨"WreckFieldModel", "bestOf", "(I)I"⟩) (n := 69) (px_p5 (i := 15) rfl)) rfl
theorem wd_929 : Cond.fieldLink "WreckFieldModel" 370 "WreckFieldModel" "tasks" "I" ∈ px_good := px_mem_good (px_t5 (i := 182) rfl) rfl
theorem wd_930 : Cond.fieldLink "WreckFieldModel" 373 "WreckFieldModel" "isPlanned" "Z" ∈ px_good := px_mem_good (px_t5 (i := 187) rfl) rfl
theorem wd_931 : Cond.fieldLink "WreckFieldModel" 376 "WreckFieldModel" "gangs" "I" ∈ px_good := px_mem_good (px_t5 (i := 185) rfl) rfl
theorem wd_932 : Cond.fieldLink "WreckFieldModel" 379 "WreckFieldModel" "bestWorth" "I" ∈ px_good := px_mem_good (px_t5 (i := 205) rfl) rfl
theorem wd_933 : Cond.code yX12_tries cX12_tries 5 none ∈ px_good := px_mem_good (px_t7 (i := 183) rfl) rfl
theorem wd_934 : Cond.methodLink "WreckFieldModel" 382 ⟨"WreckFieldModel", "tries", "(III)V"⟩ ∈ px_good := px_mem_good (px_t7 (i := 180) rfl) rfl
theorem wd_935 : Cond.instanceMethod ⟨"WreckFieldModel", "tries", "(III)V"⟩ ∈ px_good := px_mem_good (px_t7 (i := 182) rfl) rfl
theorem wd_936 : Cond.selects "WreckFieldModel" ⟨"WreckFieldModel", "tries", "(III)V"⟩ ⟨"WreckFieldModel", "tries", "(III)V"⟩ ∈ px_good := px_mem_good (px_sel (y := ⟨"WreckFieldModel", "tries", "(III)V"⟩) (n := 69) (px_p6 (i := 1) rfl)) rfl
theorem wd_937 : Cond.code yX12_plans cX12_plans 3 none ∈ px_good := px_mem_good (px_t7 (i := 179) rfl) rfl
theorem wd_938 : Cond.methodLink "WreckFieldModel" 386 ⟨"WreckFieldModel", "plans", "()V"⟩ ∈ px_good := px_mem_good (px_t7 (i := 176) rfl) rfl
theorem wd_939 : Cond.instanceMethod ⟨"WreckFieldModel", "plans", "()V"⟩ ∈ px_good := px_mem_good (px_t7 (i := 178) rfl) rfl
theorem wd_940 : Cond.selects "WreckFieldModel" ⟨"WreckFieldModel", "plans", "()V"⟩ ⟨"WreckFieldModel", "plans", "()V"⟩ ∈ px_good := px_mem_good (px_sel (y := ⟨"WreckFieldModel", "plans", "()V"⟩) (n := 69) (px_p6 (i := 0) rfl)) rfl
theorem wd_941 : Cond.fieldLink "WreckFieldModel" 389 "WreckFieldModel" "hatches" "I" ∈ px_good := px_mem_good (px_t5 (i := 188) rfl) rfl
theorem wd_942 : Cond.fieldLink "WreckFieldModel" 392 "WreckFieldModel" "roll" "I" ∈ px_good := px_mem_good (px_t5 (i := 189) rfl) rfl
theorem wd_943 : Cond.code yX12_hasStood cX12_hasStood 6 (some .boolean) ∈ px_good := px_mem_good (px_t7 (i := 207) rfl) rfl
theorem wd_944 : Cond.methodLink "WreckFieldModel" 395 ⟨"WreckFieldModel", "hasStood", "(III)Z"⟩ ∈ px_good := px_mem_good (px_t7 (i := 204) rfl) rfl
theorem wd_945 : Cond.instanceMethod ⟨"WreckFieldModel", "hasStood", "(III)Z"⟩ ∈ px_good := px_mem_good (px_t7 (i := 206) rfl) rfl
theorem wd_946 : Cond.selects "WreckFieldModel" ⟨"WreckFieldModel", "hasStood", "(III)Z"⟩ ⟨"WreckFieldModel", "hasStood", "(III)Z"⟩ ∈ px_good := px_mem_good (px_sel (y := ⟨"WreckFieldModel", "hasStood", "(III)Z"⟩) (n := 69) (px_p6 (i := 3) rfl)) rfl
theorem wd_947 : Cond.code yX12_ways cX12_ways 7 (some .int) ∈ px_good := px_mem_good (px_t7 (i := 203) rfl) rfl
theorem wd_948 : Cond.methodLink "WreckFieldModel" 398 ⟨"WreckFieldModel", "ways", "(IIZ)I"⟩ ∈ px_good := px_mem_good (px_t7 (i := 200) rfl) rfl
theorem wd_949 : Cond.instanceMethod ⟨"WreckFieldModel", "ways", "(IIZ)I"⟩ ∈ px_good := px_mem_good (px_t7 (i := 202) rfl) rfl
theorem wd_950 : Cond.selects "WreckFieldModel" ⟨"WreckFieldModel", "ways", "(IIZ)I"⟩ ⟨"WreckFieldModel", "ways", "(IIZ)I"⟩ ∈ px_good := px_mem_good (px_sel (y := ⟨"WreckFieldModel", "ways", "(IIZ)I"⟩) (n := 69) (px_p6 (i := 2) rfl)) rfl
theorem wd_951 : Cond.constant "WreckFieldModel" 402 (-40000) ∈ px_good := px_mem_good (px_t7 (i := 224) rfl) rfl
theorem wd_952 : Cond.constant "WreckFieldModel" 403 40000 ∈ px_good := px_mem_good (px_t7 (i := 225) rfl) rfl
theorem wd_953 : Cond.classLink "WreckFieldLaw" 7 "WreckField" ∈ px_good := px_mem_good (px_t1 (i := 19) rfl) rfl
theorem wd_954 : Cond.instantiable "WreckField" 8 ∈ px_good := px_mem_good (px_t1 (i := 20) rfl) rfl
theorem wd_955 : Cond.code yX11_init cX11_init 1 none ∈ px_good := px_mem_good (px_t1 (i := 23) rfl) rfl
theorem wd_956 : Cond.instanceMethod ⟨"WreckField", "<init>", "()V"⟩ ∈ px_good := px_mem_good (px_t1 (i := 22) rfl) rfl
theorem wd_957 : Cond.methodLink "WreckFieldLaw" 9 ⟨"WreckField", "<init>", "()V"⟩ ∈ px_good := px_mem_good (px_t1 (i := 21) rfl) rfl
theorem wd_958 : Cond.classLink "WreckFieldLaw" 10 "WreckFieldModel" ∈ px_good := px_mem_good (px_t5 (i := 134) rfl) rfl
theorem wd_959 : Cond.instantiable "WreckFieldModel" 69 ∈ px_good := px_mem_good (px_t5 (i := 135) rfl) rfl
theorem wd_960 : Cond.code yX12_init cX12_init 2 none ∈ px_good := px_mem_good (px_t5 (i := 138) rfl) rfl
theorem wd_961 : Cond.instanceMethod ⟨"WreckFieldModel", "<init>", "()V"⟩ ∈ px_good := px_mem_good (px_t5 (i := 137) rfl) rfl
theorem wd_962 : Cond.methodLink "WreckFieldLaw" 12 ⟨"WreckFieldModel", "<init>", "()V"⟩ ∈ px_good := px_mem_good (px_t5 (i := 136) rfl) rfl
theorem wd_963 : Cond.code yX11_mark cX11_mark 4 (some .int) ∈ px_good := px_mem_good (px_t2 (i := 89) rfl) rfl
theorem wd_964 : Cond.methodLink "WreckFieldLaw" 13 ⟨"WreckField", "mark", "(IIZ)I"⟩ ∈ px_good := px_mem_good (px_t2 (i := 86) rfl) rfl
theorem wd_965 : Cond.instanceMethod ⟨"WreckField", "mark", "(IIZ)I"⟩ ∈ px_good := px_mem_good (px_t2 (i := 87) rfl) rfl
theorem wd_966 : Cond.selects "WreckField" ⟨"WreckField", "mark", "(IIZ)I"⟩ ⟨"WreckField", "mark", "(IIZ)I"⟩ ∈ px_good := px_mem_good (px_t2 (i := 88) rfl) rfl
theorem wd_967 : Cond.code yX12_mark cX12_mark 4 (some .int) ∈ px_good := px_mem_good (px_t6 (i := 111) rfl) rfl
theorem wd_968 : Cond.methodLink "WreckFieldLaw" 17 ⟨"WreckFieldModel", "mark", "(IIZ)I"⟩ ∈ px_good := px_mem_good (px_t6 (i := 108) rfl) rfl
theorem wd_969 : Cond.instanceMethod ⟨"WreckFieldModel", "mark", "(IIZ)I"⟩ ∈ px_good := px_mem_good (px_t6 (i := 109) rfl) rfl
theorem wd_970 : Cond.selects "WreckFieldModel" ⟨"WreckFieldModel", "mark", "(IIZ)I"⟩ ⟨"WreckFieldModel", "mark", "(IIZ)I"⟩ ∈ px_good := px_mem_good (px_t6 (i := 110) rfl) rfl
theorem wd_971 : Cond.code yX11_tape cX11_tape 4 (some .int) ∈ px_good := px_mem_good (px_t2 (i := 101) rfl) rfl
theorem wd_972 : Cond.methodLink "WreckFieldLaw" 18 ⟨"WreckField", "tape", "(III)I"⟩ ∈ px_good := px_mem_good (px_t2 (i := 98) rfl) rfl
theorem wd_973 : Cond.instanceMethod ⟨"WreckField", "tape", "(III)I"⟩ ∈ px_good := px_mem_good (px_t2 (i := 99) rfl) rfl
theorem wd_974 : Cond.selects "WreckField" ⟨"WreckField", "tape", "(III)I"⟩ ⟨"WreckField", "tape", "(III)I"⟩ ∈ px_good := px_mem_good (px_t2 (i := 100) rfl) rfl
theorem wd_975 : Cond.methodLink "WreckFieldLaw" 22 ⟨"WreckFieldModel", "tape", "(III)I"⟩ ∈ px_good := px_mem_good (px_t6 (i := 115) rfl) rfl
theorem wd_976 : Cond.code yX11_tapes cX11_tapes 8 (some .int) ∈ px_good := px_mem_good (px_t2 (i := 113) rfl) rfl
theorem wd_977 : Cond.methodLink "WreckFieldLaw" 23 ⟨"WreckField", "tapes", "(III)I"⟩ ∈ px_good := px_mem_good (px_t2 (i := 110) rfl) rfl
theorem wd_978 : Cond.instanceMethod ⟨"WreckField", "tapes", "(III)I"⟩ ∈ px_good := px_mem_good (px_t2 (i := 111) rfl) rfl
theorem wd_979 : Cond.selects "WreckField" ⟨"WreckField", "tapes", "(III)I"⟩ ⟨"WreckField", "tapes", "(III)I"⟩ ∈ px_good := px_mem_good (px_t2 (i := 112) rfl) rfl
theorem wd_980 : Cond.code yX12_tapes cX12_tapes 9 (some .int) ∈ px_good := px_mem_good (px_t6 (i := 126) rfl) rfl
theorem wd_981 : Cond.methodLink "WreckFieldLaw" 26 ⟨"WreckFieldModel", "tapes", "(III)I"⟩ ∈ px_good := px_mem_good (px_t6 (i := 123) rfl) rfl
theorem wd_982 : Cond.instanceMethod ⟨"WreckFieldModel", "tapes", "(III)I"⟩ ∈ px_good := px_mem_good (px_t6 (i := 124) rfl) rfl
theorem wd_983 : Cond.selects "WreckFieldModel" ⟨"WreckFieldModel", "tapes", "(III)I"⟩ ⟨"WreckFieldModel", "tapes", "(III)I"⟩ ∈ px_good := px_mem_good (px_t6 (i := 125) rfl) rfl
theorem wd_984 : Cond.code yX11_bar cX11_bar 2 (some .int) ∈ px_good := px_mem_good (px_t2 (i := 142) rfl) rfl
theorem wd_985 : Cond.methodLink "WreckFieldLaw" 27 ⟨"WreckField", "bar", "(I)I"⟩ ∈ px_good := px_mem_good (px_t2 (i := 139) rfl) rfl
theorem wd_986 : Cond.instanceMethod ⟨"WreckField", "bar", "(I)I"⟩ ∈ px_good := px_mem_good (px_t2 (i := 140) rfl) rfl
theorem wd_987 : Cond.selects "WreckField" ⟨"WreckField", "bar", "(I)I"⟩ ⟨"WreckField", "bar", "(I)I"⟩ ∈ px_good := px_mem_good (px_t2 (i := 141) rfl) rfl
theorem wd_988 : Cond.code yX12_bar cX12_bar 3 (some .int) ∈ px_good := px_mem_good (px_t6 (i := 134) rfl) rfl
theorem wd_989 : Cond.methodLink "WreckFieldLaw" 31 ⟨"WreckFieldModel", "bar", "(I)I"⟩ ∈ px_good := px_mem_good (px_t6 (i := 131) rfl) rfl
theorem wd_990 : Cond.instanceMethod ⟨"WreckFieldModel", "bar", "(I)I"⟩ ∈ px_good := px_mem_good (px_t6 (i := 132) rfl) rfl
theorem wd_991 : Cond.selects "WreckFieldModel" ⟨"WreckFieldModel", "bar", "(I)I"⟩ ⟨"WreckFieldModel", "bar", "(I)I"⟩ ∈ px_good := px_mem_good (px_t6 (i := 133) rfl) rfl
theorem wd_992 : Cond.code yX11_fit cX11_fit 3 (some .long) ∈ px_good := px_mem_good (px_t2 (i := 150) rfl) rfl
theorem wd_993 : Cond.methodLink "WreckFieldLaw" 32 ⟨"WreckField", "fit", "(II)J"⟩ ∈ px_good := px_mem_good (px_t2 (i := 147) rfl) rfl
theorem wd_994 : Cond.instanceMethod ⟨"WreckField", "fit", "(II)J"⟩ ∈ px_good := px_mem_good (px_t2 (i := 148) rfl) rfl
theorem wd_995 : Cond.selects "WreckField" ⟨"WreckField", "fit", "(II)J"⟩ ⟨"WreckField", "fit", "(II)J"⟩ ∈ px_good := px_mem_good (px_t2 (i := 149) rfl) rfl
theorem wd_996 : Cond.code yX12_fit cX12_fit 3 (some .long) ∈ px_good := px_mem_good (px_t6 (i := 138) rfl) rfl
theorem wd_997 : Cond.methodLink "WreckFieldLaw" 36 ⟨"WreckFieldModel", "fit", "(II)J"⟩ ∈ px_good := px_mem_good (px_t6 (i := 135) rfl) rfl
theorem wd_998 : Cond.instanceMethod ⟨"WreckFieldModel", "fit", "(II)J"⟩ ∈ px_good := px_mem_good (px_t6 (i := 136) rfl) rfl
theorem wd_999 : Cond.selects "WreckFieldModel" ⟨"WreckFieldModel", "fit", "(II)J"⟩ ⟨"WreckFieldModel", "fit", "(II)J"⟩ ∈ px_good := px_mem_good (px_t6 (i := 137) rfl) rfl
theorem wd_1000 : Cond.code yX11_tapeTold cX11_tapeTold 3 (some .long) ∈ px_good := px_mem_good (px_t2 (i := 202) rfl) rfl
theorem wd_1001 : Cond.methodLink "WreckFieldLaw" 37 ⟨"WreckField", "tapeTold", "(II)J"⟩ ∈ px_good := px_mem_good (px_t2 (i := 199) rfl) rfl
theorem wd_1002 : Cond.instanceMethod ⟨"WreckField", "tapeTold", "(II)J"⟩ ∈ px_good := px_mem_good (px_t2 (i := 200) rfl) rfl
theorem wd_1003 : Cond.selects "WreckField" ⟨"WreckField", "tapeTold", "(II)J"⟩ ⟨"WreckField", "tapeTold", "(II)J"⟩ ∈ px_good := px_mem_good (px_t2 (i := 201) rfl) rfl
theorem wd_1004 : Cond.code yX12_tapeTold cX12_tapeTold 3 (some .long) ∈ px_good := px_mem_good (px_t6 (i := 168) rfl) rfl
theorem wd_1005 : Cond.methodLink "WreckFieldLaw" 40 ⟨"WreckFieldModel", "tapeTold", "(II)J"⟩ ∈ px_good := px_mem_good (px_t6 (i := 165) rfl) rfl
theorem wd_1006 : Cond.instanceMethod ⟨"WreckFieldModel", "tapeTold", "(II)J"⟩ ∈ px_good := px_mem_good (px_t6 (i := 166) rfl) rfl
theorem wd_1007 : Cond.selects "WreckFieldModel" ⟨"WreckFieldModel", "tapeTold", "(II)J"⟩ ⟨"WreckFieldModel", "tapeTold", "(II)J"⟩ ∈ px_good := px_mem_good (px_t6 (i := 167) rfl) rfl
theorem wd_1008 : Cond.code yX11_sum cX11_sum 1 (some .long) ∈ px_good := px_mem_good (px_t2 (i := 210) rfl) rfl
theorem wd_1009 : Cond.methodLink "WreckFieldLaw" 41 ⟨"WreckField", "sum", "()J"⟩ ∈ px_good := px_mem_good (px_t2 (i := 207) rfl) rfl
theorem wd_1010 : Cond.instanceMethod ⟨"WreckField", "sum", "()J"⟩ ∈ px_good := px_mem_good (px_t2 (i := 208) rfl) rfl
theorem wd_1011 : Cond.selects "WreckField" ⟨"WreckField", "sum", "()J"⟩ ⟨"WreckField", "sum", "()J"⟩ ∈ px_good := px_mem_good (px_t2 (i := 209) rfl) rfl
theorem wd_1012 : Cond.code yX12_sum cX12_sum 6 (some .long) ∈ px_good := px_mem_good (px_t6 (i := 172) rfl) rfl
theorem wd_1013 : Cond.methodLink "WreckFieldLaw" 45 ⟨"WreckFieldModel", "sum", "()J"⟩ ∈ px_good := px_mem_good (px_t6 (i := 169) rfl) rfl
theorem wd_1014 : Cond.instanceMethod ⟨"WreckFieldModel", "sum", "()J"⟩ ∈ px_good := px_mem_good (px_t6 (i := 170) rfl) rfl
theorem wd_1015 : Cond.selects "WreckFieldModel" ⟨"WreckFieldModel", "sum", "()J"⟩ ⟨"WreckFieldModel", "sum", "()J"⟩ ∈ px_good := px_mem_good (px_t6 (i := 171) rfl) rfl
theorem wd_1016 : Cond.code yX11_find cX11_find 5 (some .int) ∈ px_good := px_mem_good (px_t2 (i := 218) rfl) rfl
theorem wd_1017 : Cond.methodLink "WreckFieldLaw" 46 ⟨"WreckField", "find", "(IIII)I"⟩ ∈ px_good := px_mem_good (px_t2 (i := 215) rfl) rfl
theorem wd_1018 : Cond.instanceMethod ⟨"WreckField", "find", "(IIII)I"⟩ ∈ px_good := px_mem_good (px_t2 (i := 216) rfl) rfl
theorem wd_1019 : Cond.selects "WreckField" ⟨"WreckField", "find", "(IIII)I"⟩ ⟨"WreckField", "find", "(IIII)I"⟩ ∈ px_good := px_mem_good (px_t2 (i := 217) rfl) rfl
theorem wd_1020 : Cond.code yX12_find cX12_find 5 (some .int) ∈ px_good := px_mem_good (px_t6 (i := 176) rfl) rfl
theorem wd_1021 : Cond.methodLink "WreckFieldLaw" 50 ⟨"WreckFieldModel", "find", "(IIII)I"⟩ ∈ px_good := px_mem_good (px_t6 (i := 173) rfl) rfl
theorem wd_1022 : Cond.instanceMethod ⟨"WreckFieldModel", "find", "(IIII)I"⟩ ∈ px_good := px_mem_good (px_t6 (i := 174) rfl) rfl
theorem wd_1023 : Cond.selects "WreckFieldModel" ⟨"WreckFieldModel", "find", "(IIII)I"⟩ ⟨"WreckFieldModel", "find", "(IIII)I"⟩ ∈ px_good := px_mem_good (px_t6 (i := 175) rfl) rfl
theorem wd_1024 : Cond.code yX11_hole cX11_hole 4 (some .int) ∈ px_good := px_mem_good (px_t3 (i := 31) rfl) rfl
theorem wd_1025 : Cond.methodLink "WreckFieldLaw" 51 ⟨"WreckField", "hole", "(II)I"⟩ ∈ px_good := px_mem_good (px_t3 (i := 28) rfl) rfl
theorem wd_1026 : Cond.instanceMethod ⟨"WreckField", "hole", "(II)I"⟩ ∈ px_good := px_mem_good (px_t3 (i := 29) rfl) rfl
theorem wd_1027 : Cond.selects "WreckField" ⟨"WreckField", "hole", "(II)I"⟩ ⟨"WreckField", "hole", "(II)I"⟩ ∈ px_good := px_mem_good (px_t3 (i := 30) rfl) rfl
theorem wd_1028 : Cond.code yX12_hole cX12_hole 5 (some .int) ∈ px_good := px_mem_good (px_t6 (i := 180) rfl) rfl
theorem wd_1029 : Cond.methodLink "WreckFieldLaw" 55 ⟨"WreckFieldModel", "hole", "(II)I"⟩ ∈ px_good := px_mem_good (px_t6 (i := 177) rfl) rfl
theorem wd_1030 : Cond.instanceMethod ⟨"WreckFieldModel", "hole", "(II)I"⟩ ∈ px_good := px_mem_good (px_t6 (i := 178) rfl) rfl
theorem wd_1031 : Cond.selects "WreckFieldModel" ⟨"WreckFieldModel", "hole", "(II)I"⟩ ⟨"WreckFieldModel", "hole", "(II)I"⟩ ∈ px_good := px_mem_good (px_t6 (i := 179) rfl) rfl
theorem wd_1032 : Cond.code yX11_findTold cX11_findTold 4 (some .int) ∈ px_good := px_mem_good (px_t3 (i := 47) rfl) rfl
theorem wd_1033 : Cond.methodLink "WreckFieldLaw" 56 ⟨"WreckField", "findTold", "(II)I"⟩ ∈ px_good := px_mem_good (px_t3 (i := 44) rfl) rfl
theorem wd_1034 : Cond.instanceMethod ⟨"WreckField", "findTold", "(II)I"⟩ ∈ px_good := px_mem_good (px_t3 (i := 45) rfl) rfl
theorem wd_1035 : Cond.selects "WreckField" ⟨"WreckField", "findTold", "(II)I"⟩ ⟨"WreckField", "findTold", "(II)I"⟩ ∈ px_good := px_mem_good (px_t3 (i := 46) rfl) rfl
theorem wd_1036 : Cond.code yX12_findTold cX12_findTold 4 (some .int) ∈ px_good := px_mem_good (px_t6 (i := 192) rfl) rfl
theorem wd_1037 : Cond.methodLink "WreckFieldLaw" 59 ⟨"WreckFieldModel", "findTold", "(II)I"⟩ ∈ px_good := px_mem_good (px_t6 (i := 189) rfl) rfl
theorem wd_1038 : Cond.instanceMethod ⟨"WreckFieldModel", "findTold", "(II)I"⟩ ∈ px_good := px_mem_good (px_t6 (i := 190) rfl) rfl
theorem wd_1039 : Cond.selects "WreckFieldModel" ⟨"WreckFieldModel", "findTold", "(II)I"⟩ ⟨"WreckFieldModel", "findTold", "(II)I"⟩ ∈ px_good := px_mem_good (px_t6 (i := 191) rfl) rfl
theorem wd_1040 : Cond.code yX11_tank cX11_tank 3 (some .int) ∈ px_good := px_mem_good (px_t3 (i := 62) rfl) rfl
theorem wd_1041 : Cond.methodLink "WreckFieldLaw" 60 ⟨"WreckField", "tank", "(II)I"⟩ ∈ px_good := px_mem_good (px_t3 (i := 59) rfl) rfl
theorem wd_1042 : Cond.instanceMethod ⟨"WreckField", "tank", "(II)I"⟩ ∈ px_good := px_mem_good (px_t3 (i := 60) rfl) rfl
theorem wd_1043 : Cond.selects "WreckField" ⟨"WreckField", "tank", "(II)I"⟩ ⟨"WreckField", "tank", "(II)I"⟩ ∈ px_good := px_mem_good (px_t3 (i := 61) rfl) rfl
theorem wd_1044 : Cond.code yX12_tank cX12_tank 3 (some .int) ∈ px_good := px_mem_good (px_t6 (i := 200) rfl) rfl
theorem wd_1045 : Cond.methodLink "WreckFieldLaw" 63 ⟨"WreckFieldModel", "tank", "(II)I"⟩ ∈ px_good := px_mem_good (px_t6 (i := 197) rfl) rfl
theorem wd_1046 : Cond.instanceMethod ⟨"WreckFieldModel", "tank", "(II)I"⟩ ∈ px_good := px_mem_good (px_t6 (i := 198) rfl) rfl
theorem wd_1047 : Cond.selects "WreckFieldModel" ⟨"WreckFieldModel", "tank", "(II)I"⟩ ⟨"WreckFieldModel", "tank", "(II)I"⟩ ∈ px_good := px_mem_good (px_t6 (i := 199) rfl) rfl
theorem wd_1048 : Cond.code yX11_tankTold cX11_tankTold 3 (some .int) ∈ px_good := px_mem_good (px_t3 (i := 70) rfl) rfl
theorem wd_1049 : Cond.methodLink "WreckFieldLaw" 64 ⟨"WreckField", "tankTold", "(II)I"⟩ ∈ px_good := px_mem_good (px_t3 (i := 67) rfl) rfl
theorem wd_1050 : Cond.instanceMethod ⟨"WreckField", "tankTold", "(II)I"⟩ ∈ px_good := px_mem_good (px_t3 (i := 68) rfl) rfl
theorem wd_1051 : Cond.selects "WreckField" ⟨"WreckField", "tankTold", "(II)I"⟩ ⟨"WreckField", "tankTold", "(II)I"⟩ ∈ px_good := px_mem_good (px_t3 (i := 69) rfl) rfl
theorem wd_1052 : Cond.code yX12_tankTold cX12_tankTold 3 (some .int) ∈ px_good := px_mem_good (px_t6 (i := 204) rfl) rfl
theorem wd_1053 : Cond.methodLink "WreckFieldLaw" 67 ⟨"WreckFieldModel", "tankTold", "(II)I"⟩ ∈ px_good := px_mem_good (px_t6 (i := 201) rfl) rfl
theorem wd_1054 : Cond.instanceMethod ⟨"WreckFieldModel", "tankTold", "(II)I"⟩ ∈ px_good := px_mem_good (px_t6 (i := 202) rfl) rfl
theorem wd_1055 : Cond.selects "WreckFieldModel" ⟨"WreckFieldModel", "tankTold", "(II)I"⟩ ⟨"WreckFieldModel", "tankTold", "(II)I"⟩ ∈ px_good := px_mem_good (px_t6 (i := 203) rfl) rfl
theorem wd_1056 : Cond.code yX11_lift cX11_lift 6 (some .int) ∈ px_good := px_mem_good (px_t3 (i := 90) rfl) rfl
theorem wd_1057 : Cond.methodLink "WreckFieldLaw" 68 ⟨"WreckField", "lift", "(III)I"⟩ ∈ px_good := px_mem_good (px_t3 (i := 87) rfl) rfl
theorem wd_1058 : Cond.instanceMethod ⟨"WreckField", "lift", "(III)I"⟩ ∈ px_good := px_mem_good (px_t3 (i := 88) rfl) rfl
theorem wd_1059 : Cond.selects "WreckField" ⟨"WreckField", "lift", "(III)I"⟩ ⟨"WreckField", "lift", "(III)I"⟩ ∈ px_good := px_mem_good (px_t3 (i := 89) rfl) rfl
theorem wd_1060 : Cond.code yX12_lift cX12_lift 5 (some .int) ∈ px_good := px_mem_good (px_t6 (i := 237) rfl) rfl
theorem wd_1061 : Cond.methodLink "WreckFieldLaw" 71 ⟨"WreckFieldModel", "lift", "(III)I"⟩ ∈ px_good := px_mem_good (px_t6 (i := 234) rfl) rfl
theorem wd_1062 : Cond.instanceMethod ⟨"WreckFieldModel", "lift", "(III)I"⟩ ∈ px_good := px_mem_good (px_t6 (i := 235) rfl) rfl
theorem wd_1063 : Cond.selects "WreckFieldModel" ⟨"WreckFieldModel", "lift", "(III)I"⟩ ⟨"WreckFieldModel", "lift", "(III)I"⟩ ∈ px_good := px_mem_good (px_t6 (i := 236) rfl) rfl
theorem wd_1064 : Cond.code yX11_why cX11_why 4 (some .int) ∈ px_good := px_mem_good (px_t3 (i := 144) rfl) rfl
theorem wd_1065 : Cond.methodLink "WreckFieldLaw" 72 ⟨"WreckField", "why", "(III)I"⟩ ∈ px_good := px_mem_good (px_t3 (i := 141) rfl) rfl
theorem wd_1066 : Cond.instanceMethod ⟨"WreckField", "why", "(III)I"⟩ ∈ px_good := px_mem_good (px_t3 (i := 142) rfl) rfl
theorem wd_1067 : Cond.selects "WreckField" ⟨"WreckField", "why", "(III)I"⟩ ⟨"WreckField", "why", "(III)I"⟩ ∈ px_good := px_mem_good (px_t3 (i := 143) rfl) rfl
theorem wd_1068 : Cond.methodLink "WreckFieldLaw" 75 ⟨"WreckFieldModel", "why", "(III)I"⟩ ∈ px_good := px_mem_good (px_t6 (i := 209) rfl) rfl
theorem wd_1069 : Cond.code yX11_take cX11_take 4 (some .int) ∈ px_good := px_mem_good (px_t3 (i := 148) rfl) rfl
theorem wd_1070 : Cond.methodLink "WreckFieldLaw" 76 ⟨"WreckField", "take", "(II)I"⟩ ∈ px_good := px_mem_good (px_t3 (i := 145) rfl) rfl
theorem wd_1071 : Cond.instanceMethod ⟨"WreckField", "take", "(II)I"⟩ ∈ px_good := px_mem_good (px_t3 (i := 146) rfl) rfl
theorem wd_1072 : Cond.selects "WreckField" ⟨"WreckField", "take", "(II)I"⟩ ⟨"WreckField", "take", "(II)I"⟩ ∈ px_good := px_mem_good (px_t3 (i := 147) rfl) rfl
theorem wd_1073 : Cond.code yX12_take cX12_take 3 (some .int) ∈ px_good := px_mem_good (px_t7 (i := 2) rfl) rfl
theorem wd_1074 : Cond.methodLink "WreckFieldLaw" 79 ⟨"WreckFieldModel", "take", "(II)I"⟩ ∈ px_good := px_mem_good (px_t6 (i := 239) rfl) rfl
theorem wd_1075 : Cond.instanceMethod ⟨"WreckFieldModel", "take", "(II)I"⟩ ∈ px_good := px_mem_good (px_t7 (i := 0) rfl) rfl
theorem wd_1076 : Cond.selects "WreckFieldModel" ⟨"WreckFieldModel", "take", "(II)I"⟩ ⟨"WreckFieldModel", "take", "(II)I"⟩ ∈ px_good := px_mem_good (px_t7 (i := 1) rfl) rfl
theorem wd_1077 : Cond.code yX11_diver cX11_diver 1 (some .int) ∈ px_good := px_mem_good (px_t3 (i := 157) rfl) rfl
theorem wd_1078 : Cond.methodLink "WreckFieldLaw" 80 ⟨"WreckField", "diver", "()I"⟩ ∈ px_good := px_mem_good (px_t3 (i := 154) rfl) rfl
theorem wd_1079 : Cond.instanceMethod ⟨"WreckField", "diver", "()I"⟩ ∈ px_good := px_mem_good (px_t3 (i := 155) rfl) rfl
theorem wd_1080 : Cond.selects "WreckField" ⟨"WreckField", "diver", "()I"⟩ ⟨"WreckField", "diver", "()I"⟩ ∈ px_good := px_mem_good (px_t3 (i := 156) rfl) rfl
theorem wd_1081 : Cond.code yX12_diver cX12_diver 1 (some .int) ∈ px_good := px_mem_good (px_t7 (i := 6) rfl) rfl
theorem wd_1082 : Cond.methodLink "WreckFieldLaw" 84 ⟨"WreckFieldModel", "diver", "()I"⟩ ∈ px_good := px_mem_good (px_t7 (i := 3) rfl) rfl
theorem wd_1083 : Cond.instanceMethod ⟨"WreckFieldModel", "diver", "()I"⟩ ∈ px_good := px_mem_good (px_t7 (i := 4) rfl) rfl
theorem wd_1084 : Cond.selects "WreckFieldModel" ⟨"WreckFieldModel", "diver", "()I"⟩ ⟨"WreckFieldModel", "diver", "()I"⟩ ∈ px_good := px_mem_good (px_t7 (i := 5) rfl) rfl
theorem wd_1085 : Cond.code yX11_row cX11_row 4 (some .int) ∈ px_good := px_mem_good (px_t3 (i := 165) rfl) rfl
theorem wd_1086 : Cond.methodLink "WreckFieldLaw" 85 ⟨"WreckField", "row", "(III)I"⟩ ∈ px_good := px_mem_good (px_t3 (i := 162) rfl) rfl
theorem wd_1087 : Cond.instanceMethod ⟨"WreckField", "row", "(III)I"⟩ ∈ px_good := px_mem_good (px_t3 (i := 163) rfl) rfl
theorem wd_1088 : Cond.selects "WreckField" ⟨"WreckField", "row", "(III)I"⟩ ⟨"WreckField", "row", "(III)I"⟩ ∈ px_good := px_mem_good (px_t3 (i := 164) rfl) rfl
theorem wd_1089 : Cond.code yX12_row cX12_row 6 (some .int) ∈ px_good := px_mem_good (px_t7 (i := 10) rfl) rfl
theorem wd_1090 : Cond.methodLink "WreckFieldLaw" 88 ⟨"WreckFieldModel", "row", "(III)I"⟩ ∈ px_good := px_mem_good (px_t7 (i := 7) rfl) rfl
theorem wd_1091 : Cond.instanceMethod ⟨"WreckFieldModel", "row", "(III)I"⟩ ∈ px_good := px_mem_good (px_t7 (i := 8) rfl) rfl
theorem wd_1092 : Cond.selects "WreckFieldModel" ⟨"WreckFieldModel", "row", "(III)I"⟩ ⟨"WreckFieldModel", "row", "(III)I"⟩ ∈ px_good := px_mem_good (px_t7 (i := 9) rfl) rfl
theorem wd_1093 : Cond.code yX11_dive cX11_dive 7 (some .int) ∈ px_good := px_mem_good (px_t3 (i := 181) rfl) rfl
theorem wd_1094 : Cond.methodLink "WreckFieldLaw" 89 ⟨"WreckField", "dive", "(IIIII)I"⟩ ∈ px_good := px_mem_good (px_t3 (i := 178) rfl) rfl
theorem wd_1095 : Cond.instanceMethod ⟨"WreckField", "dive", "(IIIII)I"⟩ ∈ px_good := px_mem_good (px_t3 (i := 179) rfl) rfl
theorem wd_1096 : Cond.selects "WreckField" ⟨"WreckField", "dive", "(IIIII)I"⟩ ⟨"WreckField", "dive", "(IIIII)I"⟩ ∈ px_good := px_mem_good (px_t3 (i := 180) rfl) rfl
theorem wd_1097 : Cond.code yX12_dive cX12_dive 7 (some .int) ∈ px_good := px_mem_good (px_t7 (i := 14) rfl) rfl
theorem wd_1098 : Cond.methodLink "WreckFieldLaw" 93 ⟨"WreckFieldModel", "dive", "(IIIII)I"⟩ ∈ px_good := px_mem_good (px_t7 (i := 11) rfl) rfl
theorem wd_1099 : Cond.instanceMethod ⟨"WreckFieldModel", "dive", "(IIIII)I"⟩ ∈ px_good := px_mem_good (px_t7 (i := 12) rfl) rfl
theorem wd_1100 : Cond.selects "WreckFieldModel" ⟨"WreckFieldModel", "dive", "(IIIII)I"⟩ ⟨"WreckFieldModel", "dive", "(IIIII)I"⟩ ∈ px_good := px_mem_good (px_t7 (i := 13) rfl) rfl
theorem wd_1101 : Cond.code yX11_cancel cX11_cancel 1 (some .int) ∈ px_good := px_mem_good (px_t4 (i := 22) rfl) rfl
theorem wd_1102 : Cond.methodLink "WreckFieldLaw" 94 ⟨"WreckField", "cancel", "()I"⟩ ∈ px_good := px_mem_good (px_t4 (i := 19) rfl) rfl
theorem wd_1103 : Cond.instanceMethod ⟨"WreckField", "cancel", "()I"⟩ ∈ px_good := px_mem_good (px_t4 (i := 20) rfl) rfl
theorem wd_1104 : Cond.selects "WreckField" ⟨"WreckField", "cancel", "()I"⟩ ⟨"WreckField", "cancel", "()I"⟩ ∈ px_good := px_mem_good (px_t4 (i := 21) rfl) rfl
theorem wd_1105 : Cond.code yX12_cancel cX12_cancel 1 (some .int) ∈ px_good := px_mem_good (px_t7 (i := 47) rfl) rfl
theorem wd_1106 : Cond.methodLink "WreckFieldLaw" 97 ⟨"WreckFieldModel", "cancel", "()I"⟩ ∈ px_good := px_mem_good (px_t7 (i := 44) rfl) rfl
theorem wd_1107 : Cond.instanceMethod ⟨"WreckFieldModel", "cancel", "()I"⟩ ∈ px_good := px_mem_good (px_t7 (i := 45) rfl) rfl
theorem wd_1108 : Cond.selects "WreckFieldModel" ⟨"WreckFieldModel", "cancel", "()I"⟩ ⟨"WreckFieldModel", "cancel", "()I"⟩ ∈ px_good := px_mem_good (px_t7 (i := 46) rfl) rfl
theorem wd_1109 : Cond.code yX11_under cX11_under 3 (some .int) ∈ px_good := px_mem_good (px_t4 (i := 30) rfl) rfl
theorem wd_1110 : Cond.methodLink "WreckFieldLaw" 98 ⟨"WreckField", "under", "(II)I"⟩ ∈ px_good := px_mem_good (px_t4 (i := 27) rfl) rfl
theorem wd_1111 : Cond.instanceMethod ⟨"WreckField", "under", "(II)I"⟩ ∈ px_good := px_mem_good (px_t4 (i := 28) rfl) rfl
theorem wd_1112 : Cond.selects "WreckField" ⟨"WreckField", "under", "(II)I"⟩ ⟨"WreckField", "under", "(II)I"⟩ ∈ px_good := px_mem_good (px_t4 (i := 29) rfl) rfl
theorem wd_1113 : Cond.code yX12_under cX12_under 3 (some .int) ∈ px_good := px_mem_good (px_t7 (i := 51) rfl) rfl
theorem wd_1114 : Cond.methodLink "WreckFieldLaw" 101 ⟨"WreckFieldModel", "under", "(II)I"⟩ ∈ px_good := px_mem_good (px_t7 (i := 48) rfl) rfl
theorem wd_1115 : Cond.instanceMethod ⟨"WreckFieldModel", "under", "(II)I"⟩ ∈ px_good := px_mem_good (px_t7 (i := 49) rfl) rfl
theorem wd_1116 : Cond.selects "WreckFieldModel" ⟨"WreckFieldModel", "under", "(II)I"⟩ ⟨"WreckFieldModel", "under", "(II)I"⟩ ∈ px_good := px_mem_good (px_t7 (i := 50) rfl) rfl
theorem wd_1117 : Cond.code yX11_soonest cX11_soonest 6 (some .int) ∈ px_good := px_mem_good (px_t4 (i := 36) rfl) rfl
theorem wd_1118 : Cond.methodLink "WreckFieldLaw" 102 ⟨"WreckField", "soonest", "(IIIII)I"⟩ ∈ px_good := px_mem_good (px_t4 (i := 33) rfl) rfl
theorem wd_1119 : Cond.instanceMethod ⟨"WreckField", "soonest", "(IIIII)I"⟩ ∈ px_good := px_mem_good (px_t4 (i := 34) rfl) rfl
theorem wd_1120 : Cond.selects "WreckField" ⟨"WreckField", "soonest", "(IIIII)I"⟩ ⟨"WreckField", "soonest", "(IIIII)I"⟩ ∈ px_good := px_mem_good (px_t4 (i := 35) rfl) rfl
theorem wd_1121 : Cond.code yX12_soonest cX12_soonest 7 (some .int) ∈ px_good := px_mem_good (px_t7 (i := 55) rfl) rfl
theorem wd_1122 : Cond.methodLink "WreckFieldLaw" 105 ⟨"WreckFieldModel", "soonest", "(IIIII)I"⟩ ∈ px_good := px_mem_good (px_t7 (i := 52) rfl) rfl
theorem wd_1123 : Cond.instanceMethod ⟨"WreckFieldModel", "soonest", "(IIIII)I"⟩ ∈ px_good := px_mem_good (px_t7 (i := 53) rfl) rfl
theorem wd_1124 : Cond.selects "WreckFieldModel" ⟨"WreckFieldModel", "soonest", "(IIIII)I"⟩ ⟨"WreckFieldModel", "soonest", "(IIIII)I"⟩ ∈ px_good := px_mem_good (px_t7 (i := 54) rfl) rfl
theorem wd_1125 : Cond.constantLong "WreckFieldLaw" 106 4294967295 ∈ px_good := px_mem_good (px_t7 (i := 234) rfl) rfl
theorem wd_1126 : Cond.code yX11_feed cX11_feed 4 (some .int) ∈ px_good := px_mem_good (px_t4 (i := 52) rfl) rfl
theorem wd_1127 : Cond.methodLink "WreckFieldLaw" 108 ⟨"WreckField", "feed", "(IJ)I"⟩ ∈ px_good := px_mem_good (px_t4 (i := 49) rfl) rfl
theorem wd_1128 : Cond.instanceMethod ⟨"WreckField", "feed", "(IJ)I"⟩ ∈ px_good := px_mem_good (px_t4 (i := 50) rfl) rfl
theorem wd_1129 : Cond.selects "WreckField" ⟨"WreckField", "feed", "(IJ)I"⟩ ⟨"WreckField", "feed", "(IJ)I"⟩ ∈ px_good := px_mem_good (px_t4 (i := 51) rfl) rfl
theorem wd_1130 : Cond.code yX12_feed cX12_feed 5 (some .int) ∈ px_good := px_mem_good (px_t7 (i := 60) rfl) rfl
theorem wd_1131 : Cond.methodLink "WreckFieldLaw" 112 ⟨"WreckFieldModel", "feed", "(IJ)I"⟩ ∈ px_good := px_mem_good (px_t7 (i := 57) rfl) rfl
theorem wd_1132 : Cond.instanceMethod ⟨"WreckFieldModel", "feed", "(IJ)I"⟩ ∈ px_good := px_mem_good (px_t7 (i := 58) rfl) rfl
theorem wd_1133 : Cond.selects "WreckFieldModel" ⟨"WreckFieldModel", "feed", "(IJ)I"⟩ ⟨"WreckFieldModel", "feed", "(IJ)I"⟩ ∈ px_good := px_mem_good (px_t7 (i := 59) rfl) rfl
theorem wd_1134 : Cond.code yX11_rule cX11_rule 1 (some .int) ∈ px_good := px_mem_good (px_t4 (i := 61) rfl) rfl
theorem wd_1135 : Cond.methodLink "WreckFieldLaw" 113 ⟨"WreckField", "rule", "()I"⟩ ∈ px_good := px_mem_good (px_t4 (i := 58) rfl) rfl
theorem wd_1136 : Cond.instanceMethod ⟨"WreckField", "rule", "()I"⟩ ∈ px_good := px_mem_good (px_t4 (i := 59) rfl) rfl
theorem wd_1137 : Cond.selects "WreckField" ⟨"WreckField", "rule", "()I"⟩ ⟨"WreckField", "rule", "()I"⟩ ∈ px_good := px_mem_good (px_t4 (i := 60) rfl) rfl
theorem wd_1138 : Cond.code yX12_rule cX12_rule 3 (some .int) ∈ px_good := px_mem_good (px_t7 (i := 65) rfl) rfl
theorem wd_1139 : Cond.methodLink "WreckFieldLaw" 116 ⟨"WreckFieldModel", "rule", "()I"⟩ ∈ px_good := px_mem_good (px_t7 (i := 62) rfl) rfl
theorem wd_1140 : Cond.instanceMethod ⟨"WreckFieldModel", "rule", "()I"⟩ ∈ px_good := px_mem_good (px_t7 (i := 63) rfl) rfl
theorem wd_1141 : Cond.selects "WreckFieldModel" ⟨"WreckFieldModel", "rule", "()I"⟩ ⟨"WreckFieldModel", "rule", "()I"⟩ ∈ px_good := px_mem_good (px_t7 (i := 64) rfl) rfl
theorem wd_1142 : Cond.code yX11_worth cX11_worth 5 (some .long) ∈ px_good := px_mem_good (px_t4 (i := 208) rfl) rfl
theorem wd_1143 : Cond.methodLink "WreckFieldLaw" 117 ⟨"WreckField", "worth", "(III)J"⟩ ∈ px_good := px_mem_good (px_t4 (i := 205) rfl) rfl
theorem wd_1144 : Cond.instanceMethod ⟨"WreckField", "worth", "(III)J"⟩ ∈ px_good := px_mem_good (px_t4 (i := 206) rfl) rfl
theorem wd_1145 : Cond.selects "WreckField" ⟨"WreckField", "worth", "(III)J"⟩ ⟨"WreckField", "worth", "(III)J"⟩ ∈ px_good := px_mem_good (px_t4 (i := 207) rfl) rfl
theorem wd_1146 : Cond.code yX12_worth cX12_worth 4 (some .long) ∈ px_good := px_mem_good (px_t7 (i := 139) rfl) rfl
theorem wd_1147 : Cond.methodLink "WreckFieldLaw" 121 ⟨"WreckFieldModel", "worth", "(III)J"⟩ ∈ px_good := px_mem_good (px_t7 (i := 136) rfl) rfl
theorem wd_1148 : Cond.instanceMethod ⟨"WreckFieldModel", "worth", "(III)J"⟩ ∈ px_good := px_mem_good (px_t7 (i := 137) rfl) rfl
theorem wd_1149 : Cond.selects "WreckFieldModel" ⟨"WreckFieldModel", "worth", "(III)J"⟩ ⟨"WreckFieldModel", "worth", "(III)J"⟩ ∈ px_good := px_mem_good (px_t7 (i := 138) rfl) rfl
theorem wd_1150 : Cond.code yX11_bond cX11_bond 6 (some .int) ∈ px_good := px_mem_good (px_t4 (i := 214) rfl) rfl
theorem wd_1151 : Cond.methodLink "WreckFieldLaw" 122 ⟨"WreckField", "bond", "(III)I"⟩ ∈ px_good := px_mem_good (px_t4 (i := 211) rfl) rfl
theorem wd_1152 : Cond.instanceMethod ⟨"WreckField", "bond", "(III)I"⟩ ∈ px_good := px_mem_good (px_t4 (i := 212) rfl) rfl
theorem wd_1153 : Cond.selects "WreckField" ⟨"WreckField", "bond", "(III)I"⟩ ⟨"WreckField", "bond", "(III)I"⟩ ∈ px_good := px_mem_good (px_t4 (i := 213) rfl) rfl
theorem wd_1154 : Cond.code yX12_bond cX12_bond 4 (some .int) ∈ px_good := px_mem_good (px_t7 (i := 143) rfl) rfl
theorem wd_1155 : Cond.methodLink "WreckFieldLaw" 125 ⟨"WreckFieldModel", "bond", "(III)I"⟩ ∈ px_good := px_mem_good (px_t7 (i := 140) rfl) rfl
theorem wd_1156 : Cond.instanceMethod ⟨"WreckFieldModel", "bond", "(III)I"⟩ ∈ px_good := px_mem_good (px_t7 (i := 141) rfl) rfl
theorem wd_1157 : Cond.selects "WreckFieldModel" ⟨"WreckFieldModel", "bond", "(III)I"⟩ ⟨"WreckFieldModel", "bond", "(III)I"⟩ ∈ px_good := px_mem_good (px_t7 (i := 142) rfl) rfl
theorem wd_1158 : Cond.code yX11_best cX11_best 2 (some .int) ∈ px_good := px_mem_good (px_t4 (i := 226) rfl) rfl
theorem wd_1159 : Cond.methodLink "WreckFieldLaw" 126 ⟨"WreckField", "best", "(I)I"⟩ ∈ px_good := px_mem_good (px_t4 (i := 223) rfl) rfl
theorem wd_1160 : Cond.instanceMethod ⟨"WreckField", "best", "(I)I"⟩ ∈ px_good := px_mem_good (px_t4 (i := 224) rfl) rfl
theorem wd_1161 : Cond.selects "WreckField" ⟨"WreckField", "best", "(I)I"⟩ ⟨"WreckField", "best", "(I)I"⟩ ∈ px_good := px_mem_good (px_t4 (i := 225) rfl) rfl
theorem wd_1162 : Cond.code yX12_best cX12_best 2 (some .int) ∈ px_good := px_mem_good (px_t7 (i := 155) rfl) rfl
theorem wd_1163 : Cond.methodLink "WreckFieldLaw" 129 ⟨"WreckFieldModel", "best", "(I)I"⟩ ∈ px_good := px_mem_good (px_t7 (i := 152) rfl) rfl
theorem wd_1164 : Cond.instanceMethod ⟨"WreckFieldModel", "best", "(I)I"⟩ ∈ px_good := px_mem_good (px_t7 (i := 153) rfl) rfl
theorem wd_1165 : Cond.selects "WreckFieldModel" ⟨"WreckFieldModel", "best", "(I)I"⟩ ⟨"WreckFieldModel", "best", "(I)I"⟩ ∈ px_good := px_mem_good (px_t7 (i := 154) rfl) rfl
theorem wd_1166 : Cond.code yX11_joined cX11_joined 3 (some .int) ∈ px_good := px_mem_good (px_t4 (i := 236) rfl) rfl
theorem wd_1167 : Cond.methodLink "WreckFieldLaw" 130 ⟨"WreckField", "joined", "(I)I"⟩ ∈ px_good := px_mem_good (px_t4 (i := 233) rfl) rfl
theorem wd_1168 : Cond.instanceMethod ⟨"WreckField", "joined", "(I)I"⟩ ∈ px_good := px_mem_good (px_t4 (i := 234) rfl) rfl
theorem wd_1169 : Cond.selects "WreckField" ⟨"WreckField", "joined", "(I)I"⟩ ⟨"WreckField", "joined", "(I)I"⟩ ∈ px_good := px_mem_good (px_t4 (i := 235) rfl) rfl
theorem wd_1170 : Cond.code yX12_joined cX12_joined 3 (some .int) ∈ px_good := px_mem_good (px_t7 (i := 163) rfl) rfl
theorem wd_1171 : Cond.methodLink "WreckFieldLaw" 133 ⟨"WreckFieldModel", "joined", "(I)I"⟩ ∈ px_good := px_mem_good (px_t7 (i := 160) rfl) rfl
theorem wd_1172 : Cond.instanceMethod ⟨"WreckFieldModel", "joined", "(I)I"⟩ ∈ px_good := px_mem_good (px_t7 (i := 161) rfl) rfl
theorem wd_1173 : Cond.selects "WreckFieldModel" ⟨"WreckFieldModel", "joined", "(I)I"⟩ ⟨"WreckFieldModel", "joined", "(I)I"⟩ ∈ px_good := px_mem_good (px_t7 (i := 162) rfl) rfl
theorem wd_1174 : Cond.code yX11_task cX11_task 3 (some .int) ∈ px_good := px_mem_good (px_t5 (i := 0) rfl) rfl
theorem wd_1175 : Cond.methodLink "WreckFieldLaw" 134 ⟨"WreckField", "task", "(II)I"⟩ ∈ px_good := px_mem_good (px_t4 (i := 237) rfl) rfl
theorem wd_1176 : Cond.instanceMethod ⟨"WreckField", "task", "(II)I"⟩ ∈ px_good := px_mem_good (px_t4 (i := 238) rfl) rfl
theorem wd_1177 : Cond.selects "WreckField" ⟨"WreckField", "task", "(II)I"⟩ ⟨"WreckField", "task", "(II)I"⟩ ∈ px_good := px_mem_good (px_t4 (i := 239) rfl) rfl
theorem wd_1178 : Cond.code yX12_task cX12_task 3 (some .int) ∈ px_good := px_mem_good (px_t7 (i := 167) rfl) rfl
theorem wd_1179 : Cond.methodLink "WreckFieldLaw" 137 ⟨"WreckFieldModel", "task", "(II)I"⟩ ∈ px_good := px_mem_good (px_t7 (i := 164) rfl) rfl
theorem wd_1180 : Cond.instanceMethod ⟨"WreckFieldModel", "task", "(II)I"⟩ ∈ px_good := px_mem_good (px_t7 (i := 165) rfl) rfl
theorem wd_1181 : Cond.selects "WreckFieldModel" ⟨"WreckFieldModel", "task", "(II)I"⟩ ⟨"WreckFieldModel", "task", "(II)I"⟩ ∈ px_good := px_mem_good (px_t7 (i := 166) rfl) rfl
theorem wd_1182 : Cond.code yX11_gang cX11_gang 2 (some .int) ∈ px_good := px_mem_good (px_t5 (i := 10) rfl) rfl
theorem wd_1183 : Cond.methodLink "WreckFieldLaw" 138 ⟨"WreckField", "gang", "(I)I"⟩ ∈ px_good := px_mem_good (px_t5 (i := 7) rfl) rfl
theorem wd_1184 : Cond.instanceMethod ⟨"WreckField", "gang", "(I)I"⟩ ∈ px_good := px_mem_good (px_t5 (i := 8) rfl) rfl
theorem wd_1185 : Cond.selects "WreckField" ⟨"WreckField", "gang", "(I)I"⟩ ⟨"WreckField", "gang", "(I)I"⟩ ∈ px_good := px_mem_good (px_t5 (i := 9) rfl) rfl
theorem wd_1186 : Cond.code yX12_gang cX12_gang 2 (some .int) ∈ px_good := px_mem_good (px_t7 (i := 171) rfl) rfl
theorem wd_1187 : Cond.methodLink "WreckFieldLaw" 141 ⟨"WreckFieldModel", "gang", "(I)I"⟩ ∈ px_good := px_mem_good (px_t7 (i := 168) rfl) rfl
theorem wd_1188 : Cond.instanceMethod ⟨"WreckFieldModel", "gang", "(I)I"⟩ ∈ px_good := px_mem_good (px_t7 (i := 169) rfl) rfl
theorem wd_1189 : Cond.selects "WreckFieldModel" ⟨"WreckFieldModel", "gang", "(I)I"⟩ ⟨"WreckFieldModel", "gang", "(I)I"⟩ ∈ px_good := px_mem_good (px_t7 (i := 170) rfl) rfl
theorem wd_1190 : Cond.code yX11_plan cX11_plan 1 (some .int) ∈ px_good := px_mem_good (px_t5 (i := 18) rfl) rfl
theorem wd_1191 : Cond.methodLink "WreckFieldLaw" 142 ⟨"WreckField", "plan", "()I"⟩ ∈ px_good := px_mem_good (px_t5 (i := 15) rfl) rfl
theorem wd_1192 : Cond.instanceMethod ⟨"WreckField", "plan", "()I"⟩ ∈ px_good := px_mem_good (px_t5 (i := 16) rfl) rfl
theorem wd_1193 : Cond.selects "WreckField" ⟨"WreckField", "plan", "()I"⟩ ⟨"WreckField", "plan", "()I"⟩ ∈ px_good := px_mem_good (px_t5 (i := 17) rfl) rfl
theorem wd_1194 : Cond.code yX12_plan cX12_plan 1 (some .int) ∈ px_good := px_mem_good (px_t7 (i := 175) rfl) rfl
theorem wd_1195 : Cond.methodLink "WreckFieldLaw" 145 ⟨"WreckFieldModel", "plan", "()I"⟩ ∈ px_good := px_mem_good (px_t7 (i := 172) rfl) rfl
theorem wd_1196 : Cond.instanceMethod ⟨"WreckFieldModel", "plan", "()I"⟩ ∈ px_good := px_mem_good (px_t7 (i := 173) rfl) rfl
theorem wd_1197 : Cond.selects "WreckFieldModel" ⟨"WreckFieldModel", "plan", "()I"⟩ ⟨"WreckFieldModel", "plan", "()I"⟩ ∈ px_good := px_mem_good (px_t7 (i := 174) rfl) rfl
theorem wd_1198 : Cond.code yX11_planned cX11_planned 2 (some .int) ∈ px_good := px_mem_good (px_t5 (i := 41) rfl) rfl
theorem wd_1199 : Cond.methodLink "WreckFieldLaw" 146 ⟨"WreckField", "planned", "(I)I"⟩ ∈ px_good := px_mem_good (px_t5 (i := 38) rfl) rfl
theorem wd_1200 : Cond.instanceMethod ⟨"WreckField", "planned", "(I)I"⟩ ∈ px_good := px_mem_good (px_t5 (i := 39) rfl) rfl
theorem wd_1201 : Cond.selects "WreckField" ⟨"WreckField", "planned", "(I)I"⟩ ⟨"WreckField", "planned", "(I)I"⟩ ∈ px_good := px_mem_good (px_t5 (i := 40) rfl) rfl
theorem wd_1202 : Cond.code yX12_planned cX12_planned 2 (some .int) ∈ px_good := px_mem_good (px_t7 (i := 187) rfl) rfl
theorem wd_1203 : Cond.methodLink "WreckFieldLaw" 149 ⟨"WreckFieldModel", "planned", "(I)I"⟩ ∈ px_good := px_mem_good (px_t7 (i := 184) rfl) rfl
theorem wd_1204 : Cond.instanceMethod ⟨"WreckFieldModel", "planned", "(I)I"⟩ ∈ px_good := px_mem_good (px_t7 (i := 185) rfl) rfl
theorem wd_1205 : Cond.selects "WreckFieldModel" ⟨"WreckFieldModel", "planned", "(I)I"⟩ ⟨"WreckFieldModel", "planned", "(I)I"⟩ ∈ px_good := px_mem_good (px_t7 (i := 186) rfl) rfl
theorem wd_1206 : Cond.code yX11_hatches cX11_hatches 2 (some .int) ∈ px_good := px_mem_good (px_t5 (i := 49) rfl) rfl
theorem wd_1207 : Cond.methodLink "WreckFieldLaw" 150 ⟨"WreckField", "hatches", "(I)I"⟩ ∈ px_good := px_mem_good (px_t5 (i := 46) rfl) rfl
theorem wd_1208 : Cond.instanceMethod ⟨"WreckField", "hatches", "(I)I"⟩ ∈ px_good := px_mem_good (px_t5 (i := 47) rfl) rfl
theorem wd_1209 : Cond.selects "WreckField" ⟨"WreckField", "hatches", "(I)I"⟩ ⟨"WreckField", "hatches", "(I)I"⟩ ∈ px_good := px_mem_good (px_t5 (i := 48) rfl) rfl
theorem wd_1210 : Cond.code yX12_hatches cX12_hatches 3 (some .int) ∈ px_good := px_mem_good (px_t7 (i := 191) rfl) rfl
theorem wd_1211 : Cond.methodLink "WreckFieldLaw" 153 ⟨"WreckFieldModel", "hatches", "(I)I"⟩ ∈ px_good := px_mem_good (px_t7 (i := 188) rfl) rfl
theorem wd_1212 : Cond.instanceMethod ⟨"WreckFieldModel", "hatches", "(I)I"⟩ ∈ px_good := px_mem_good (px_t7 (i := 189) rfl) rfl
theorem wd_1213 : Cond.selects "WreckFieldModel" ⟨"WreckFieldModel", "hatches", "(I)I"⟩ ⟨"WreckFieldModel", "hatches", "(I)I"⟩ ∈ px_good := px_mem_good (px_t7 (i := 190) rfl) rfl
theorem wd_1214 : Cond.code yX11_roll cX11_roll 2 (some .int) ∈ px_good := px_mem_good (px_t5 (i := 57) rfl) rfl
theorem wd_1215 : Cond.methodLink "WreckFieldLaw" 154 ⟨"WreckField", "roll", "(I)I"⟩ ∈ px_good := px_mem_good (px_t5 (i := 54) rfl) rfl
theorem wd_1216 : Cond.instanceMethod ⟨"WreckField", "roll", "(I)I"⟩ ∈ px_good := px_mem_good (px_t5 (i := 55) rfl) rfl
theorem wd_1217 : Cond.selects "WreckField" ⟨"WreckField", "roll", "(I)I"⟩ ⟨"WreckField", "roll", "(I)I"⟩ ∈ px_good := px_mem_good (px_t5 (i := 56) rfl) rfl
theorem wd_1218 : Cond.code yX12_roll cX12_roll 3 (some .int) ∈ px_good := px_mem_good (px_t7 (i := 195) rfl) rfl
theorem wd_1219 : Cond.methodLink "WreckFieldLaw" 157 ⟨"WreckFieldModel", "roll", "(I)I"⟩ ∈ px_good := px_mem_good (px_t7 (i := 192) rfl) rfl
theorem wd_1220 : Cond.instanceMethod ⟨"WreckFieldModel", "roll", "(I)I"⟩ ∈ px_good := px_mem_good (px_t7 (i := 193) rfl) rfl
theorem wd_1221 : Cond.selects "WreckFieldModel" ⟨"WreckFieldModel", "roll", "(I)I"⟩ ⟨"WreckFieldModel", "roll", "(I)I"⟩ ∈ px_good := px_mem_good (px_t7 (i := 194) rfl) rfl
theorem wd_1222 : Cond.code yX11_stood cX11_stood 3 (some .int) ∈ px_good := px_mem_good (px_t5 (i := 65) rfl) rfl
theorem wd_1223 : Cond.methodLink "WreckFieldLaw" 158 ⟨"WreckField", "stood", "(I)I"⟩ ∈ px_good := px_mem_good (px_t5 (i := 62) rfl) rfl
theorem wd_1224 : Cond.instanceMethod ⟨"WreckField", "stood", "(I)I"⟩ ∈ px_good := px_mem_good (px_t5 (i := 63) rfl) rfl
theorem wd_1225 : Cond.selects "WreckField" ⟨"WreckField", "stood", "(I)I"⟩ ⟨"WreckField", "stood", "(I)I"⟩ ∈ px_good := px_mem_good (px_t5 (i := 64) rfl) rfl
theorem wd_1226 : Cond.code yX12_stood cX12_stood 2 (some .int) ∈ px_good := px_mem_good (px_t7 (i := 199) rfl) rfl
theorem wd_1227 : Cond.methodLink "WreckFieldLaw" 161 ⟨"WreckFieldModel", "stood", "(I)I"⟩ ∈ px_good := px_mem_good (px_t7 (i := 196) rfl) rfl
theorem wd_1228 : Cond.instanceMethod ⟨"WreckFieldModel", "stood", "(I)I"⟩ ∈ px_good := px_mem_good (px_t7 (i := 197) rfl) rfl
theorem wd_1229 : Cond.selects "WreckFieldModel" ⟨"WreckFieldModel", "stood", "(I)I"⟩ ⟨"WreckFieldModel", "stood", "(I)I"⟩ ∈ px_good := px_mem_good (px_t7 (i := 198) rfl) rfl
theorem wd_1230 : Cond.code yX11_stoodAt cX11_stoodAt 4 (some .int) ∈ px_good := px_mem_good (px_t5 (i := 83) rfl) rfl
theorem wd_1231 : Cond.methodLink "WreckFieldLaw" 162 ⟨"WreckField", "stoodAt", "(II)I"⟩ ∈ px_good := px_mem_good (px_t5 (i := 80) rfl) rfl
theorem wd_1232 : Cond.instanceMethod ⟨"WreckField", "stoodAt", "(II)I"⟩ ∈ px_good := px_mem_good (px_t5 (i := 81) rfl) rfl
theorem wd_1233 : Cond.selects "WreckField" ⟨"WreckField", "stoodAt", "(II)I"⟩ ⟨"WreckField", "stoodAt", "(II)I"⟩ ∈ px_good := px_mem_good (px_t5 (i := 82) rfl) rfl
theorem wd_1234 : Cond.code yX12_stoodAt cX12_stoodAt 3 (some .int) ∈ px_good := px_mem_good (px_t7 (i := 211) rfl) rfl
theorem wd_1235 : Cond.methodLink "WreckFieldLaw" 165 ⟨"WreckFieldModel", "stoodAt", "(II)I"⟩ ∈ px_good := px_mem_good (px_t7 (i := 208) rfl) rfl
theorem wd_1236 : Cond.instanceMethod ⟨"WreckFieldModel", "stoodAt", "(II)I"⟩ ∈ px_good := px_mem_good (px_t7 (i := 209) rfl) rfl
theorem wd_1237 : Cond.selects "WreckFieldModel" ⟨"WreckFieldModel", "stoodAt", "(II)I"⟩ ⟨"WreckFieldModel", "stoodAt", "(II)I"⟩ ∈ px_good := px_mem_good (px_t7 (i := 210) rfl) rfl
theorem wd_1238 : Cond.code yX11_count cX11_count 2 (some .int) ∈ px_good := px_mem_good (px_t5 (i := 91) rfl) rfl
theorem wd_1239 : Cond.methodLink "WreckFieldLaw" 166 ⟨"WreckField", "count", "(I)I"⟩ ∈ px_good := px_mem_good (px_t5 (i := 88) rfl) rfl
theorem wd_1240 : Cond.instanceMethod ⟨"WreckField", "count", "(I)I"⟩ ∈ px_good := px_mem_good (px_t5 (i := 89) rfl) rfl
theorem wd_1241 : Cond.selects "WreckField" ⟨"WreckField", "count", "(I)I"⟩ ⟨"WreckField", "count", "(I)I"⟩ ∈ px_good := px_mem_good (px_t5 (i := 90) rfl) rfl
theorem wd_1242 : Cond.code yX12_count cX12_count 4 (some .int) ∈ px_good := px_mem_good (px_t7 (i := 215) rfl) rfl
theorem wd_1243 : Cond.methodLink "WreckFieldLaw" 169 ⟨"WreckFieldModel", "count", "(I)I"⟩ ∈ px_good := px_mem_good (px_t7 (i := 212) rfl) rfl
theorem wd_1244 : Cond.instanceMethod ⟨"WreckFieldModel", "count", "(I)I"⟩ ∈ px_good := px_mem_good (px_t7 (i := 213) rfl) rfl
theorem wd_1245 : Cond.selects "WreckFieldModel" ⟨"WreckFieldModel", "count", "(I)I"⟩ ⟨"WreckFieldModel", "count", "(I)I"⟩ ∈ px_good := px_mem_good (px_t7 (i := 214) rfl) rfl
theorem wd_1246 : Cond.code yX11_sheet cX11_sheet 4 (some .int) ∈ px_good := px_mem_good (px_t5 (i := 100) rfl) rfl
theorem wd_1247 : Cond.methodLink "WreckFieldLaw" 170 ⟨"WreckField", "sheet", "(III)I"⟩ ∈ px_good := px_mem_good (px_t5 (i := 97) rfl) rfl
theorem wd_1248 : Cond.instanceMethod ⟨"WreckField", "sheet", "(III)I"⟩ ∈ px_good := px_mem_good (px_t5 (i := 98) rfl) rfl
theorem wd_1249 : Cond.selects "WreckField" ⟨"WreckField", "sheet", "(III)I"⟩ ⟨"WreckField", "sheet", "(III)I"⟩ ∈ px_good := px_mem_good (px_t5 (i := 99) rfl) rfl
theorem wd_1250 : Cond.code yX12_sheet cX12_sheet 5 (some .int) ∈ px_good := px_mem_good (px_t7 (i := 219) rfl) rfl
theorem wd_1251 : Cond.methodLink "WreckFieldLaw" 173 ⟨"WreckFieldModel", "sheet", "(III)I"⟩ ∈ px_good := px_mem_good (px_t7 (i := 216) rfl) rfl
theorem wd_1252 : Cond.instanceMethod ⟨"WreckFieldModel", "sheet", "(III)I"⟩ ∈ px_good := px_mem_good (px_t7 (i := 217) rfl) rfl
theorem wd_1253 : Cond.selects "WreckFieldModel" ⟨"WreckFieldModel", "sheet", "(III)I"⟩ ⟨"WreckFieldModel", "sheet", "(III)I"⟩ ∈ px_good := px_mem_good (px_t7 (i := 218) rfl) rfl
theorem wd_1254 : Cond.code yX11_cell cX11_cell 4 (some .int) ∈ px_good := px_mem_good (px_t5 (i := 109) rfl) rfl
theorem wd_1255 : Cond.methodLink "WreckFieldLaw" 174 ⟨"WreckField", "cell", "(III)I"⟩ ∈ px_good := px_mem_good (px_t5 (i := 106) rfl) rfl
theorem wd_1256 : Cond.instanceMethod ⟨"WreckField", "cell", "(III)I"⟩ ∈ px_good := px_mem_good (px_t5 (i := 107) rfl) rfl
theorem wd_1257 : Cond.selects "WreckField" ⟨"WreckField", "cell", "(III)I"⟩ ⟨"WreckField", "cell", "(III)I"⟩ ∈ px_good := px_mem_good (px_t5 (i := 108) rfl) rfl
theorem wd_1258 : Cond.code yX12_cell cX12_cell 4 (some .int) ∈ px_good := px_mem_good (px_t7 (i := 223) rfl) rfl
theorem wd_1259 : Cond.methodLink "WreckFieldLaw" 177 ⟨"WreckFieldModel", "cell", "(III)I"⟩ ∈ px_good := px_mem_good (px_t7 (i := 220) rfl) rfl
theorem wd_1260 : Cond.instanceMethod ⟨"WreckFieldModel", "cell", "(III)I"⟩ ∈ px_good := px_mem_good (px_t7 (i := 221) rfl) rfl
theorem wd_1261 : Cond.selects "WreckFieldModel" ⟨"WreckFieldModel", "cell", "(III)I"⟩ ⟨"WreckFieldModel", "cell", "(III)I"⟩ ∈ px_good := px_mem_good (px_t7 (i := 222) rfl) rfl
theorem wd_1262 : Cond.code yX11_none cX11_none 3 (some .int) ∈ px_good := px_mem_good (px_t5 (i := 123) rfl) rfl
theorem wd_1263 : Cond.methodLink "WreckFieldLaw" 178 ⟨"WreckField", "none", "(II)I"⟩ ∈ px_good := px_mem_good (px_t5 (i := 120) rfl) rfl
theorem wd_1264 : Cond.instanceMethod ⟨"WreckField", "none", "(II)I"⟩ ∈ px_good := px_mem_good (px_t5 (i := 121) rfl) rfl
theorem wd_1265 : Cond.selects "WreckField" ⟨"WreckField", "none", "(II)I"⟩ ⟨"WreckField", "none", "(II)I"⟩ ∈ px_good := px_mem_good (px_t5 (i := 122) rfl) rfl
theorem wd_1266 : Cond.code yX12_none cX12_none 3 (some .int) ∈ px_good := px_mem_good (px_t7 (i := 229) rfl) rfl
theorem wd_1267 : Cond.methodLink "WreckFieldLaw" 181 ⟨"WreckFieldModel", "none", "(II)I"⟩ ∈ px_good := px_mem_good (px_t7 (i := 226) rfl) rfl
theorem wd_1268 : Cond.instanceMethod ⟨"WreckFieldModel", "none", "(II)I"⟩ ∈ px_good := px_mem_good (px_t7 (i := 227) rfl) rfl
theorem wd_1269 : Cond.selects "WreckFieldModel" ⟨"WreckFieldModel", "none", "(II)I"⟩ ⟨"WreckFieldModel", "none", "(II)I"⟩ ∈ px_good := px_mem_good (px_t7 (i := 228) rfl) rfl
theorem wd_1270 : Cond.code yX11_taken cX11_taken 4 (some .int) ∈ px_good := px_mem_good (px_t5 (i := 132) rfl) rfl
theorem wd_1271 : Cond.methodLink "WreckFieldLaw" 182 ⟨"WreckField", "taken", "(II)I"⟩ ∈ px_good := px_mem_good (px_t5 (i := 129) rfl) rfl
theorem wd_1272 : Cond.instanceMethod ⟨"WreckField", "taken", "(II)I"⟩ ∈ px_good := px_mem_good (px_t5 (i := 130) rfl) rfl
theorem wd_1273 : Cond.selects "WreckField" ⟨"WreckField", "taken", "(II)I"⟩ ⟨"WreckField", "taken", "(II)I"⟩ ∈ px_good := px_mem_good (px_t5 (i := 131) rfl) rfl
theorem wd_1274 : Cond.code yX12_taken cX12_taken 3 (some .int) ∈ px_good := px_mem_good (px_t7 (i := 233) rfl) rfl
theorem wd_1275 : Cond.methodLink "WreckFieldLaw" 185 ⟨"WreckFieldModel", "taken", "(II)I"⟩ ∈ px_good := px_mem_good (px_t7 (i := 230) rfl) rfl
theorem wd_1276 : Cond.instanceMethod ⟨"WreckFieldModel", "taken", "(II)I"⟩ ∈ px_good := px_mem_good (px_t7 (i := 231) rfl) rfl
theorem wd_1277 : Cond.selects "WreckFieldModel" ⟨"WreckFieldModel", "taken", "(II)I"⟩ ⟨"WreckFieldModel", "taken", "(II)I"⟩ ∈ px_good := px_mem_good (px_t7 (i := 232) rfl) rfl
theorem wd_1278 : Cond.fieldLink "java/lang/String" 9 "java/lang/String" "value" "[B" ∈ px_good := px_mem_good (px_t7 (i := 235) rfl) rfl
theorem wd_1279 : Cond.fieldLink "java/lang/String" 15 "java/lang/String" "coder" "B" ∈ px_good := px_mem_good (px_t7 (i := 236) rfl) rfl
theorem wd_1280 : Cond.fieldLink "java/lang/String" 38 "java/lang/String" "COMPACT_STRINGS" "Z" ∈ px_good := px_mem_good (px_t4 (i := 106) rfl) rfl
theorem wd_1281 : Cond.methodLink "java/lang/String" 335 ⟨"java/lang/String", "coder", "()B"⟩ ∈ px_good := px_mem_good (px_t4 (i := 102) rfl) rfl
theorem wd_1282 : Cond.instanceMethod ⟨"java/lang/String", "coder", "()B"⟩ ∈ px_good := px_mem_good (px_t4 (i := 103) rfl) rfl
theorem wd_1283 : Cond.selects "java/lang/String" ⟨"java/lang/String", "coder", "()B"⟩ ⟨"java/lang/String", "coder", "()B"⟩ ∈ px_good := px_mem_good (px_t4 (i := 104) rfl) rfl
theorem wd_1284 : Cond.initialized "java/lang/String" ∈ px_good := px_mem_good (px_t1 (i := 15) rfl) rfl
theorem wd_1285 : Cond.initialized "java/lang/StringLatin1" ∈ px_good := px_mem_good (px_t1 (i := 16) rfl) rfl
theorem wd_1286 : Cond.initialized "jdk/internal/util/Preconditions" ∈ px_good := px_mem_good (px_t1 (i := 17) rfl) rfl
theorem wd_1287 : Cond.methodLink "java/lang/String" 492 ⟨"java/lang/String", "isLatin1", "()Z"⟩ ∈ px_good := px_mem_good (px_t4 (i := 112) rfl) rfl
theorem wd_1288 : Cond.instanceMethod ⟨"java/lang/String", "isLatin1", "()Z"⟩ ∈ px_good := px_mem_good (px_t4 (i := 113) rfl) rfl
theorem wd_1289 : Cond.selects "java/lang/String" ⟨"java/lang/String", "isLatin1", "()Z"⟩ ⟨"java/lang/String", "isLatin1", "()Z"⟩ ∈ px_good := px_mem_good (px_t4 (i := 114) rfl) rfl
theorem wd_1290 : Cond.methodLink "java/lang/String" 495 ⟨"java/lang/StringLatin1", "charAt", "([BI)C"⟩ ∈ px_good := px_mem_good (px_t4 (i := 116) rfl) rfl
theorem wd_1291 : Cond.static ⟨"java/lang/StringLatin1", "charAt", "([BI)C"⟩ ∈ px_good := px_mem_good (px_t4 (i := 117) rfl) rfl
theorem wd_1292 : Cond.methodLink "java/lang/StringLatin1" 9 ⟨"java/lang/String", "checkIndex", "(II)V"⟩ ∈ px_good := px_mem_good (px_t4 (i := 119) rfl) rfl
theorem wd_1293 : Cond.static ⟨"java/lang/String", "checkIndex", "(II)V"⟩ ∈ px_good := px_mem_good (px_t4 (i := 120) rfl) rfl
theorem wd_1294 : Cond.fieldLink "java/lang/String" 1053 "jdk/internal/util/Preconditions" "SIOOBE_FORMATTER" "Ljava/util/function/BiFunction;" ∈ px_good := px_mem_good (px_t4 (i := 122) rfl) rfl
theorem wd_1295 : Cond.methodLink "java/lang/String" 1059 ⟨"jdk/internal/util/Preconditions", "checkIndex", "(IILjava/util/function/BiFunction;)I"⟩ ∈ px_good := px_mem_good (px_t4 (i := 124) rfl) rfl
theorem wd_1296 : Cond.static ⟨"jdk/internal/util/Preconditions", "checkIndex", "(IILjava/util/function/BiFunction;)I"⟩ ∈ px_good := px_mem_good (px_t4 (i := 125) rfl) rfl
theorem wd_1297 : Cond.methodLink "WreckField$RuleReader" 114 ⟨"java/lang/String", "length", "()I"⟩ ∈ px_good := px_mem_good (px_t4 (i := 98) rfl) rfl
theorem wd_1298 : Cond.instanceMethod ⟨"java/lang/String", "length", "()I"⟩ ∈ px_good := px_mem_good (px_t4 (i := 99) rfl) rfl
theorem wd_1299 : Cond.selects "java/lang/String" ⟨"java/lang/String", "length", "()I"⟩ ⟨"java/lang/String", "length", "()I"⟩ ∈ px_good := px_mem_good (px_t4 (i := 100) rfl) rfl
theorem wd_1300 : Cond.methodLink "WreckField$RuleReader" 120 ⟨"java/lang/String", "charAt", "(I)C"⟩ ∈ px_good := px_mem_good (px_t4 (i := 108) rfl) rfl
theorem wd_1301 : Cond.instanceMethod ⟨"java/lang/String", "charAt", "(I)C"⟩ ∈ px_good := px_mem_good (px_t4 (i := 109) rfl) rfl
theorem wd_1302 : Cond.selects "java/lang/String" ⟨"java/lang/String", "charAt", "(I)C"⟩ ⟨"java/lang/String", "charAt", "(I)C"⟩ ∈ px_good := px_mem_good (px_t4 (i := 110) rfl) rfl
theorem wd_1303 : Cond.code yJ0_coder_7d493 cJ0_coder_7d493 1 (some .byte) ∈ px_good := px_mem_good (px_t4 (i := 105) rfl) rfl
theorem wd_1304 : Cond.code yJ0_isLatin1_aae02 cJ0_isLatin1_aae02 1 (some .boolean) ∈ px_good := px_mem_good (px_t4 (i := 115) rfl) rfl
theorem wd_1305 : Cond.code yJ0_length_8abf5 cJ0_length_8abf5 1 (some .int) ∈ px_good := px_mem_good (px_t4 (i := 101) rfl) rfl
theorem wd_1306 : Cond.code yJ0_charAt_5068e cJ0_charAt_5068e 2 (some .char) ∈ px_good := px_mem_good (px_t4 (i := 111) rfl) rfl
theorem wd_1307 : Cond.code yJ1_charAt_3b067 cJ1_charAt_3b067 2 (some .char) ∈ px_good := px_mem_good (px_t4 (i := 118) rfl) rfl
theorem wd_1308 : Cond.code yJ0_checkIndex_df160 cJ0_checkIndex_df160 2 none ∈ px_good := px_mem_good (px_t4 (i := 121) rfl) rfl
theorem wd_1309 : Cond.code yJ3_checkIndex_8e157 cJ3_checkIndex_8e157 3 (some .int) ∈ px_good := px_mem_good (px_t4 (i := 126) rfl) rfl
theorem jw_value : Cond.fieldLink "java/lang/String" 9 "java/lang/String" "value" "[B" ∈ px_good := wd_1278
theorem jw_coderf : Cond.fieldLink "java/lang/String" 15 "java/lang/String" "coder" "B" ∈ px_good := wd_1279
theorem jw_compact : Cond.fieldLink "java/lang/String" 38 "java/lang/String" "COMPACT_STRINGS" "Z" ∈ px_good := wd_1280
theorem jw_coder : Cond.methodLink "java/lang/String" 335 ⟨"java/lang/String", "coder", "()B"⟩ ∈ px_good := wd_1281
theorem jw_coderi : Cond.instanceMethod ⟨"java/lang/String", "coder", "()B"⟩ ∈ px_good := wd_1282
theorem jw_coders : Cond.selects "java/lang/String" ⟨"java/lang/String", "coder", "()B"⟩ ⟨"java/lang/String", "coder", "()B"⟩ ∈ px_good := wd_1283
theorem jw_ini : Cond.initialized "java/lang/String" ∈ px_good := wd_1284
theorem jw_ini1 : Cond.initialized "java/lang/StringLatin1" ∈ px_good := wd_1285
theorem jw_ini3 : Cond.initialized "jdk/internal/util/Preconditions" ∈ px_good := wd_1286
theorem jw_lat : Cond.methodLink "java/lang/String" 492 ⟨"java/lang/String", "isLatin1", "()Z"⟩ ∈ px_good := wd_1287
theorem jw_lati : Cond.instanceMethod ⟨"java/lang/String", "isLatin1", "()Z"⟩ ∈ px_good := wd_1288
theorem jw_lats : Cond.selects "java/lang/String" ⟨"java/lang/String", "isLatin1", "()Z"⟩ ⟨"java/lang/String", "isLatin1", "()Z"⟩ ∈ px_good := wd_1289
theorem jw_l1 : Cond.methodLink "java/lang/String" 495 ⟨"java/lang/StringLatin1", "charAt", "([BI)C"⟩ ∈ px_good := wd_1290
theorem jw_l1s : Cond.static ⟨"java/lang/StringLatin1", "charAt", "([BI)C"⟩ ∈ px_good := wd_1291
theorem jw_ck : Cond.methodLink "java/lang/StringLatin1" 9 ⟨"java/lang/String", "checkIndex", "(II)V"⟩ ∈ px_good := wd_1292
theorem jw_cks : Cond.static ⟨"java/lang/String", "checkIndex", "(II)V"⟩ ∈ px_good := wd_1293
theorem jw_fmt : Cond.fieldLink "java/lang/String" 1053 "jdk/internal/util/Preconditions" "SIOOBE_FORMATTER" "Ljava/util/function/BiFunction;" ∈ px_good := wd_1294
theorem jw_pc : Cond.methodLink "java/lang/String" 1059 ⟨"jdk/internal/util/Preconditions", "checkIndex", "(IILjava/util/function/BiFunction;)I"⟩ ∈ px_good := wd_1295
theorem jw_pcs : Cond.static ⟨"jdk/internal/util/Preconditions", "checkIndex", "(IILjava/util/function/BiFunction;)I"⟩ ∈ px_good := wd_1296
theorem jw_len : Cond.methodLink "WreckField$RuleReader" 114 ⟨"java/lang/String", "length", "()I"⟩ ∈ px_good := wd_1297
theorem jw_leni : Cond.instanceMethod ⟨"java/lang/String", "length", "()I"⟩ ∈ px_good := wd_1298
theorem jw_lens : Cond.selects "java/lang/String" ⟨"java/lang/String", "length", "()I"⟩ ⟨"java/lang/String", "length", "()I"⟩ ∈ px_good := wd_1299
theorem jw_chr : Cond.methodLink "WreckField$RuleReader" 120 ⟨"java/lang/String", "charAt", "(I)C"⟩ ∈ px_good := wd_1300
theorem jw_chri : Cond.instanceMethod ⟨"java/lang/String", "charAt", "(I)C"⟩ ∈ px_good := wd_1301
theorem jw_chrs : Cond.selects "java/lang/String" ⟨"java/lang/String", "charAt", "(I)C"⟩ ⟨"java/lang/String", "charAt", "(I)C"⟩ ∈ px_good := wd_1302
theorem jc_coder : Cond.code yJ0_coder_7d493 cJ0_coder_7d493 1 (some .byte) ∈ px_good := wd_1303
theorem jc_lat : Cond.code yJ0_isLatin1_aae02 cJ0_isLatin1_aae02 1 (some .boolean) ∈ px_good := wd_1304
theorem jc_len : Cond.code yJ0_length_8abf5 cJ0_length_8abf5 1 (some .int) ∈ px_good := wd_1305
theorem jc_chr : Cond.code yJ0_charAt_5068e cJ0_charAt_5068e 2 (some .char) ∈ px_good := wd_1306
theorem jc_l1 : Cond.code yJ1_charAt_3b067 cJ1_charAt_3b067 2 (some .char) ∈ px_good := wd_1307
theorem jc_ck : Cond.code yJ0_checkIndex_df160 cJ0_checkIndex_df160 2 none ∈ px_good := wd_1308
theorem jc_pc : Cond.code yJ3_checkIndex_8e157 cJ3_checkIndex_8e157 3 (some .int) ∈ px_good := wd_1309
abbrev YX0_init : px_Y := (yX0_init, cX0_init, 6, none)
abbrev YX0_end : px_Y := (yX0_end, cX0_end, 1, (some .int))
abbrev YX0_has : px_Y := (yX0_has, cX0_has, 2, (some .boolean))
abbrev YX0_meets : px_Y := (yX0_meets, cX0_meets, 3, (some .boolean))
abbrev YX1_init : px_Y := (yX1_init, cX1_init, 1, none)
abbrev YX1_addDiver : px_Y := (yX1_addDiver, cX1_addDiver, 1, (some .int))
abbrev YX1_hasDiver : px_Y := (yX1_hasDiver, cX1_hasDiver, 2, (some .boolean))
abbrev YX1_putRow : px_Y := (yX1_putRow, cX1_putRow, 5, (some .int))
abbrev YX1_firstRowFrom : px_Y := (yX1_firstRowFrom, cX1_firstRowFrom, 3, (some .int))
abbrev YX1_openRow : px_Y := (yX1_openRow, cX1_openRow, 3, none)
abbrev YX1_restAfter : px_Y := (yX1_restAfter, cX1_restAfter, 3, (some .int))
abbrev YX1_canBeAsked : px_Y := (yX1_canBeAsked, cX1_canBeAsked, 6, (some .boolean))
abbrev YX1_refusal : px_Y := (yX1_refusal, cX1_refusal, 7, (some .int))
abbrev YX1_tableRefusal : px_Y := (yX1_tableRefusal, cX1_tableRefusal, 4, (some .int))
abbrev YX1_timeRefusal : px_Y := (yX1_timeRefusal, cX1_timeRefusal, 10, (some .int))
abbrev YX1_isTooNear : px_Y := (yX1_isTooNear, cX1_isTooNear, 5, (some .boolean))
abbrev YX1_minutesOn : px_Y := (yX1_minutesOn, cX1_minutesOn, 6, (some .int))
abbrev YX1_addDive : px_Y := (yX1_addDive, cX1_addDive, 6, (some .int))
abbrev YX1_dropLast : px_Y := (yX1_dropLast, cX1_dropLast, 1, (some .int))
abbrev YX1_firstMoment : px_Y := (yX1_firstMoment, cX1_firstMoment, 12, (some .int))
abbrev YX1_pastHindrance : px_Y := (yX1_pastHindrance, cX1_pastHindrance, 10, (some .int))
abbrev YX2_init : px_Y := (yX2_init, cX2_init, 5, none)
abbrev YX2_x : px_Y := (yX2_x, cX2_x, 1, (some .int))
abbrev YX2_y : px_Y := (yX2_y, cX2_y, 1, (some .int))
abbrev YX2_isUnder : px_Y := (yX2_isUnder, cX2_isUnder, 4, (some .boolean))
abbrev YX2_addHole : px_Y := (yX2_addHole, cX2_addHole, 3, (some .int))
abbrev YX2_item : px_Y := (yX2_item, cX2_item, 2, (some .int))
abbrev YX2_readyDay : px_Y := (yX2_readyDay, cX2_readyDay, 1, (some .int))
abbrev YX2_goInto : px_Y := (yX2_goInto, cX2_goInto, 3, none)
abbrev YX2_goOut : px_Y := (yX2_goOut, cX2_goOut, 1, none)
abbrev YX3_init : px_Y := (yX3_init, cX3_init, 1, none)
abbrev YX3_addTask : px_Y := (yX3_addTask, cX3_addTask, 6, (some .int))
abbrev YX3_addGang : px_Y := (yX3_addGang, cX3_addGang, 2, (some .int))
abbrev YX3_greatestWorth : px_Y := (yX3_greatestWorth, cX3_greatestWorth, 1, (some .int))
abbrev YX3_gangOf : px_Y := (yX3_gangOf, cX3_gangOf, 2, (some .int))
abbrev YX3_planIfNew : px_Y := (yX3_planIfNew, cX3_planIfNew, 3, none)
abbrev YX3_giveToGang : px_Y := (yX3_giveToGang, cX3_giveToGang, 9, none)
abbrev YX3_keepPlan : px_Y := (yX3_keepPlan, cX3_keepPlan, 7, none)
abbrev YX4_init : px_Y := (yX4_init, cX4_init, 1, none)
abbrev YX4_clear : px_Y := (yX4_clear, cX4_clear, 1, none)
abbrev YX4_add : px_Y := (yX4_add, cX4_add, 3, none)
abbrev YX4_endBar : px_Y := (yX4_endBar, cX4_endBar, 1, none)
abbrev YX4_firstHolding : px_Y := (yX4_firstHolding, cX4_firstHolding, 4, (some .int))
abbrev YX4_valueOf : px_Y := (yX4_valueOf, cX4_valueOf, 7, (some .int))
abbrev YX4_named : px_Y := (yX4_named, cX4_named, 3, (some .int))
abbrev YX4_ofOne : px_Y := (yX4_ofOne, cX4_ofOne, 2, (some .int))
abbrev YX4_ofTwo : px_Y := (yX4_ofTwo, cX4_ofTwo, 3, (some .int))
abbrev YX4_truth : px_Y := (yX4_truth, cX4_truth, 1, (some .int))
abbrev YX5_init : px_Y := (yX5_init, cX5_init, 1, none)
abbrev YX5_append : px_Y := (yX5_append, cX5_append, 5, (some .int))
abbrev YX5_readAll : px_Y := (yX5_readAll, cX5_readAll, 3, (some .int))
abbrev YX5_readBars : px_Y := (yX5_readBars, cX5_readBars, 2, (some .boolean))
abbrev YX5_readOr : px_Y := (yX5_readOr, cX5_readOr, 4, (some .boolean))
abbrev YX5_readAnd : px_Y := (yX5_readAnd, cX5_readAnd, 4, (some .boolean))
abbrev YX5_readNot : px_Y := (yX5_readNot, cX5_readNot, 3, (some .boolean))
abbrev YX5_readCompared : px_Y := (yX5_readCompared, cX5_readCompared, 4, (some .boolean))
abbrev YX5_readSum : px_Y := (yX5_readSum, cX5_readSum, 5, (some .boolean))
abbrev YX5_readTerm : px_Y := (yX5_readTerm, cX5_readTerm, 4, (some .boolean))
abbrev YX5_readOne : px_Y := (yX5_readOne, cX5_readOne, 2, (some .boolean))
abbrev YX5_readNegated : px_Y := (yX5_readNegated, cX5_readNegated, 3, (some .boolean))
abbrev YX5_readInner : px_Y := (yX5_readInner, cX5_readInner, 2, (some .boolean))
abbrev YX5_next : px_Y := (yX5_next, cX5_next, 2, none)
abbrev YX5_isLetter : px_Y := (yX5_isLetter, cX5_isLetter, 1, (some .boolean))
abbrev YX5_isDigit : px_Y := (yX5_isDigit, cX5_isDigit, 1, (some .boolean))
abbrev YX5_isSign : px_Y := (yX5_isSign, cX5_isSign, 1, (some .boolean))
abbrev YX5_takeNumber : px_Y := (yX5_takeNumber, cX5_takeNumber, 1, none)
abbrev YX5_takeWord : px_Y := (yX5_takeWord, cX5_takeWord, 2, none)
abbrev YX5_isAtHand : px_Y := (yX5_isAtHand, cX5_isAtHand, 3, (some .boolean))
abbrev YX5_wordAt : px_Y := (yX5_wordAt, cX5_wordAt, 1, (some (.object "java/lang/String")))
abbrev YX6_init : px_Y := (yX6_init, cX6_init, 1, none)
abbrev YX6_has : px_Y := (yX6_has, cX6_has, 2, (some .boolean))
abbrev YX6_make : px_Y := (yX6_make, cX6_make, 5, (some .int))
abbrev YX6_put : px_Y := (yX6_put, cX6_put, 4, (some .int))
abbrev YX6_cutTo : px_Y := (yX6_cutTo, cX6_cutTo, 2, (some .int))
abbrev YX6_wipe : px_Y := (yX6_wipe, cX6_wipe, 4, (some .int))
abbrev YX6_floatsRefusal : px_Y := (yX6_floatsRefusal, cX6_floatsRefusal, 2, (some .int))
abbrev YX6_holds : px_Y := (yX6_holds, cX6_holds, 3, (some .boolean))
abbrev YX6_isNumber : px_Y := (yX6_isNumber, cX6_isNumber, 3, (some .boolean))
abbrev YX6_whole : px_Y := (yX6_whole, cX6_whole, 3, (some .int))
abbrev YX7_init : px_Y := (yX7_init, cX7_init, 1, none)
abbrev YX7_addMark : px_Y := (yX7_addMark, cX7_addMark, 4, (some .int))
abbrev YX7_addTape : px_Y := (yX7_addTape, cX7_addTape, 4, (some .int))
abbrev YX7_hasMark : px_Y := (yX7_hasMark, cX7_hasMark, 2, (some .boolean))
abbrev YX7_forgetRounds : px_Y := (yX7_forgetRounds, cX7_forgetRounds, 2, none)
abbrev YX7_changeBar : px_Y := (yX7_changeBar, cX7_changeBar, 3, (some .int))
abbrev YX7_markTold : px_Y := (yX7_markTold, cX7_markTold, 4, (some .long))
abbrev YX7_tapeItem : px_Y := (yX7_tapeItem, cX7_tapeItem, 3, (some .long))
abbrev YX7_squares : px_Y := (yX7_squares, cX7_squares, 7, (some .long))
abbrev YX7_fittedRound : px_Y := (yX7_fittedRound, cX7_fittedRound, 2, (some .int))
abbrev YX7_isOut : px_Y := (yX7_isOut, cX7_isOut, 3, (some .boolean))
abbrev YX7_miss : px_Y := (yX7_miss, cX7_miss, 5, (some .int))
abbrev YX7_distance : px_Y := (yX7_distance, cX7_distance, 7, (some .int))
abbrev YX7_fitIfNew : px_Y := (yX7_fitIfNew, cX7_fitIfNew, 6, none)
abbrev YX7_goToTold : px_Y := (yX7_goToTold, cX7_goToTold, 3, none)
abbrev YX7_gatherNear : px_Y := (yX7_gatherNear, cX7_gatherNear, 6, none)
abbrev YX7_moveMark : px_Y := (yX7_moveMark, cX7_moveMark, 17, (some .boolean))
abbrev YX7_nearSquares : px_Y := (yX7_nearSquares, cX7_nearSquares, 10, (some .long))
abbrev YX7_judge : px_Y := (yX7_judge, cX7_judge, 6, none)
abbrev YX8_init : px_Y := (yX8_init, cX8_init, 1, none)
abbrev YX8_match : px_Y := (yX8_match, cX8_match, 6, none)
abbrev YX8_takeIfGreater : px_Y := (yX8_takeIfGreater, cX8_takeIfGreater, 2, none)
abbrev YX8_bestOf : px_Y := (yX8_bestOf, cX8_bestOf, 8, (some .int))
abbrev YX9_init : px_Y := (yX9_init, cX9_init, 1, none)
abbrev YX9_openHatches : px_Y := (yX9_openHatches, cX9_openHatches, 3, (some .int))
abbrev YX9_changeRoll : px_Y := (yX9_changeRoll, cX9_changeRoll, 3, (some .int))
abbrev YX9_ways : px_Y := (yX9_ways, cX9_ways, 4, (some .int))
abbrev YX9_wayAt : px_Y := (yX9_wayAt, cX9_wayAt, 6, (some .int))
abbrev YX9_placeOn : px_Y := (yX9_placeOn, cX9_placeOn, 6, (some .int))
abbrev YX9_decksDown : px_Y := (yX9_decksDown, cX9_decksDown, 4, (some .int))
abbrev YX10_init : px_Y := (yX10_init, cX10_init, 1, none)
abbrev YX10_addFind : px_Y := (yX10_addFind, cX10_addFind, 5, (some .int))
abbrev YX10_findAt : px_Y := (yX10_findAt, cX10_findAt, 2, (some (.object "WreckField$Find")))
abbrev YX10_timberAt : px_Y := (yX10_timberAt, cX10_timberAt, 3, (some (.object "WreckField$Find")))
abbrev YX10_inField : px_Y := (yX10_inField, cX10_inField, 4, (some .int))
abbrev YX10_addTank : px_Y := (yX10_addTank, cX10_addTank, 3, (some .int))
abbrev YX10_hasTank : px_Y := (yX10_hasTank, cX10_hasTank, 2, (some .boolean))
abbrev YX10_tankItem : px_Y := (yX10_tankItem, cX10_tankItem, 3, (some .int))
abbrev YX10_sizesIn : px_Y := (yX10_sizesIn, cX10_sizesIn, 5, (some .int))
abbrev YX10_findsIn : px_Y := (yX10_findsIn, cX10_findsIn, 5, (some .int))
abbrev YX10_refusal : px_Y := (yX10_refusal, cX10_refusal, 3, (some .int))
abbrev YX11_init : px_Y := (yX11_init, cX11_init, 1, none)
abbrev YX11_mark : px_Y := (yX11_mark, cX11_mark, 4, (some .int))
abbrev YX11_tape : px_Y := (yX11_tape, cX11_tape, 4, (some .int))
abbrev YX11_tapes : px_Y := (yX11_tapes, cX11_tapes, 8, (some .int))
abbrev YX11_tapeFrom : px_Y := (yX11_tapeFrom, cX11_tapeFrom, 3, (some .int))
abbrev YX11_bar : px_Y := (yX11_bar, cX11_bar, 2, (some .int))
abbrev YX11_fit : px_Y := (yX11_fit, cX11_fit, 3, (some .long))
abbrev YX11_tapeTold : px_Y := (yX11_tapeTold, cX11_tapeTold, 3, (some .long))
abbrev YX11_sum : px_Y := (yX11_sum, cX11_sum, 1, (some .long))
abbrev YX11_find : px_Y := (yX11_find, cX11_find, 5, (some .int))
abbrev YX11_hole : px_Y := (yX11_hole, cX11_hole, 4, (some .int))
abbrev YX11_findTold : px_Y := (yX11_findTold, cX11_findTold, 4, (some .int))
abbrev YX11_tank : px_Y := (yX11_tank, cX11_tank, 3, (some .int))
abbrev YX11_tankTold : px_Y := (yX11_tankTold, cX11_tankTold, 3, (some .int))
abbrev YX11_lift : px_Y := (yX11_lift, cX11_lift, 6, (some .int))
abbrev YX11_why : px_Y := (yX11_why, cX11_why, 4, (some .int))
abbrev YX11_liftRefusal : px_Y := (yX11_liftRefusal, cX11_liftRefusal, 7, (some .int))
abbrev YX11_isDay : px_Y := (yX11_isDay, cX11_isDay, 1, (some .boolean))
abbrev YX11_take : px_Y := (yX11_take, cX11_take, 4, (some .int))
abbrev YX11_diver : px_Y := (yX11_diver, cX11_diver, 1, (some .int))
abbrev YX11_row : px_Y := (yX11_row, cX11_row, 4, (some .int))
abbrev YX11_dive : px_Y := (yX11_dive, cX11_dive, 7, (some .int))
abbrev YX11_cancel : px_Y := (yX11_cancel, cX11_cancel, 1, (some .int))
abbrev YX11_under : px_Y := (yX11_under, cX11_under, 3, (some .int))
abbrev YX11_soonest : px_Y := (yX11_soonest, cX11_soonest, 6, (some .int))
abbrev YX11_feed : px_Y := (yX11_feed, cX11_feed, 4, (some .int))
abbrev YX11_rule : px_Y := (yX11_rule, cX11_rule, 1, (some .int))
abbrev YX11_worth : px_Y := (yX11_worth, cX11_worth, 5, (some .long))
abbrev YX11_bond : px_Y := (yX11_bond, cX11_bond, 6, (some .int))
abbrev YX11_best : px_Y := (yX11_best, cX11_best, 2, (some .int))
abbrev YX11_joined : px_Y := (yX11_joined, cX11_joined, 3, (some .int))
abbrev YX11_task : px_Y := (yX11_task, cX11_task, 3, (some .int))
abbrev YX11_gang : px_Y := (yX11_gang, cX11_gang, 2, (some .int))
abbrev YX11_plan : px_Y := (yX11_plan, cX11_plan, 1, (some .int))
abbrev YX11_planned : px_Y := (yX11_planned, cX11_planned, 2, (some .int))
abbrev YX11_hatches : px_Y := (yX11_hatches, cX11_hatches, 2, (some .int))
abbrev YX11_roll : px_Y := (yX11_roll, cX11_roll, 2, (some .int))
abbrev YX11_stood : px_Y := (yX11_stood, cX11_stood, 3, (some .int))
abbrev YX11_stoodAt : px_Y := (yX11_stoodAt, cX11_stoodAt, 4, (some .int))
abbrev YX11_count : px_Y := (yX11_count, cX11_count, 2, (some .int))
abbrev YX11_sheet : px_Y := (yX11_sheet, cX11_sheet, 4, (some .int))
abbrev YX11_cell : px_Y := (yX11_cell, cX11_cell, 4, (some .int))
abbrev YX11_none : px_Y := (yX11_none, cX11_none, 3, (some .int))
abbrev YX11_taken : px_Y := (yX11_taken, cX11_taken, 4, (some .int))
abbrev YX12_init : px_Y := (yX12_init, cX12_init, 2, none)
abbrev YX12_in : px_Y := (yX12_in, cX12_in, 3, (some .boolean))
abbrev YX12_isMark : px_Y := (yX12_isMark, cX12_isMark, 2, (some .boolean))
abbrev YX12_isFind : px_Y := (yX12_isFind, cX12_isFind, 2, (some .boolean))
abbrev YX12_isDay : px_Y := (yX12_isDay, cX12_isDay, 1, (some .boolean))
abbrev YX12_mark : px_Y := (yX12_mark, cX12_mark, 4, (some .int))
abbrev YX12_tape : px_Y := (yX12_tape, cX12_tape, 4, (some .int))
abbrev YX12_tapes : px_Y := (yX12_tapes, cX12_tapes, 9, (some .int))
abbrev YX12_bar : px_Y := (yX12_bar, cX12_bar, 3, (some .int))
abbrev YX12_root : px_Y := (yX12_root, cX12_root, 4, (some .int))
abbrev YX12_miss : px_Y := (yX12_miss, cX12_miss, 4, (some .int))
abbrev YX12_misses : px_Y := (yX12_misses, cX12_misses, 7, (some .long))
abbrev YX12_goes : px_Y := (yX12_goes, cX12_goes, 13, none)
abbrev YX12_fits : px_Y := (yX12_fits, cX12_fits, 4, none)
abbrev YX12_knows : px_Y := (yX12_knows, cX12_knows, 5, none)
abbrev YX12_fit : px_Y := (yX12_fit, cX12_fit, 3, (some .long))
abbrev YX12_tapeTold : px_Y := (yX12_tapeTold, cX12_tapeTold, 3, (some .long))
abbrev YX12_sum : px_Y := (yX12_sum, cX12_sum, 6, (some .long))
abbrev YX12_find : px_Y := (yX12_find, cX12_find, 5, (some .int))
abbrev YX12_isTimber : px_Y := (yX12_isTimber, cX12_isTimber, 2, (some .boolean))
abbrev YX12_hole : px_Y := (yX12_hole, cX12_hole, 5, (some .int))
abbrev YX12_weeks : px_Y := (yX12_weeks, cX12_weeks, 2, (some .int))
abbrev YX12_findTold : px_Y := (yX12_findTold, cX12_findTold, 4, (some .int))
abbrev YX12_tank : px_Y := (yX12_tank, cX12_tank, 3, (some .int))
abbrev YX12_inTank : px_Y := (yX12_inTank, cX12_inTank, 5, (some .int))
abbrev YX12_tankTold : px_Y := (yX12_tankTold, cX12_tankTold, 3, (some .int))
abbrev YX12_isUnder : px_Y := (yX12_isUnder, cX12_isUnder, 2, (some .boolean))
abbrev YX12_hinders : px_Y := (yX12_hinders, cX12_hinders, 5, (some .int))
abbrev YX12_why : px_Y := (yX12_why, cX12_why, 4, (some .int))
abbrev YX12_lift : px_Y := (yX12_lift, cX12_lift, 5, (some .int))
abbrev YX12_take : px_Y := (yX12_take, cX12_take, 3, (some .int))
abbrev YX12_diver : px_Y := (yX12_diver, cX12_diver, 1, (some .int))
abbrev YX12_row : px_Y := (yX12_row, cX12_row, 6, (some .int))
abbrev YX12_rowOf : px_Y := (yX12_rowOf, cX12_rowOf, 3, (some .int))
abbrev YX12_restOf : px_Y := (yX12_restOf, cX12_restOf, 3, (some .int))
abbrev YX12_isOf : px_Y := (yX12_isOf, cX12_isOf, 4, (some .boolean))
abbrev YX12_minutesOn : px_Y := (yX12_minutesOn, cX12_minutesOn, 5, (some .int))
abbrev YX12_refused : px_Y := (yX12_refused, cX12_refused, 7, (some .int))
abbrev YX12_clashes : px_Y := (yX12_clashes, cX12_clashes, 10, (some .int))
abbrev YX12_isDive : px_Y := (yX12_isDive, cX12_isDive, 7, (some .boolean))
abbrev YX12_dive : px_Y := (yX12_dive, cX12_dive, 7, (some .int))
abbrev YX12_cancel : px_Y := (yX12_cancel, cX12_cancel, 1, (some .int))
abbrev YX12_under : px_Y := (yX12_under, cX12_under, 3, (some .int))
abbrev YX12_soonest : px_Y := (yX12_soonest, cX12_soonest, 7, (some .int))
abbrev YX12_byteAt : px_Y := (yX12_byteAt, cX12_byteAt, 2, (some .int))
abbrev YX12_isLetter : px_Y := (yX12_isLetter, cX12_isLetter, 1, (some .boolean))
abbrev YX12_isDigit : px_Y := (yX12_isDigit, cX12_isDigit, 1, (some .boolean))
abbrev YX12_next : px_Y := (yX12_next, cX12_next, 3, none)
abbrev YX12_number : px_Y := (yX12_number, cX12_number, 1, none)
abbrev YX12_word : px_Y := (yX12_word, cX12_word, 5, none)
abbrev YX12_isWrong : px_Y := (yX12_isWrong, cX12_isWrong, 1, (some .boolean))
abbrev YX12_cannot : px_Y := (yX12_cannot, cX12_cannot, 1, none)
abbrev YX12_need : px_Y := (yX12_need, cX12_need, 2, none)
abbrev YX12_opens : px_Y := (yX12_opens, cX12_opens, 1, none)
abbrev YX12_emit : px_Y := (yX12_emit, cX12_emit, 3, none)
abbrev YX12_reads : px_Y := (yX12_reads, cX12_reads, 2, (some .int))
abbrev YX12_either : px_Y := (yX12_either, cX12_either, 1, none)
abbrev YX12_both : px_Y := (yX12_both, cX12_both, 1, none)
abbrev YX12_not : px_Y := (yX12_not, cX12_not, 2, none)
abbrev YX12_added : px_Y := (yX12_added, cX12_added, 2, none)
abbrev YX12_term : px_Y := (yX12_term, cX12_term, 1, none)
abbrev YX12_one : px_Y := (yX12_one, cX12_one, 1, none)
abbrev YX12_feed : px_Y := (yX12_feed, cX12_feed, 5, (some .int))
abbrev YX12_rule : px_Y := (yX12_rule, cX12_rule, 3, (some .int))
abbrev YX12_two : px_Y := (yX12_two, cX12_two, 3, (some .int))
abbrev YX12_named : px_Y := (yX12_named, cX12_named, 4, (some .int))
abbrev YX12_worked : px_Y := (yX12_worked, cX12_worked, 7, (some .int))
abbrev YX12_worth : px_Y := (yX12_worth, cX12_worth, 4, (some .long))
abbrev YX12_shared : px_Y := (yX12_shared, cX12_shared, 7, (some .int))
abbrev YX12_bonded : px_Y := (yX12_bonded, cX12_bonded, 9, (some .int))
abbrev YX12_bond : px_Y := (yX12_bond, cX12_bond, 4, (some .int))
abbrev YX12_bestOf : px_Y := (yX12_bestOf, cX12_bestOf, 5, (some .int))
abbrev YX12_best : px_Y := (yX12_best, cX12_best, 2, (some .int))
abbrev YX12_joined : px_Y := (yX12_joined, cX12_joined, 3, (some .int))
abbrev YX12_task : px_Y := (yX12_task, cX12_task, 3, (some .int))
abbrev YX12_gang : px_Y := (yX12_gang, cX12_gang, 2, (some .int))
abbrev YX12_tries : px_Y := (yX12_tries, cX12_tries, 5, none)
abbrev YX12_plans : px_Y := (yX12_plans, cX12_plans, 3, none)
abbrev YX12_plan : px_Y := (yX12_plan, cX12_plan, 1, (some .int))
abbrev YX12_planned : px_Y := (yX12_planned, cX12_planned, 2, (some .int))
abbrev YX12_hatches : px_Y := (yX12_hatches, cX12_hatches, 3, (some .int))
abbrev YX12_roll : px_Y := (yX12_roll, cX12_roll, 3, (some .int))
abbrev YX12_hasStood : px_Y := (yX12_hasStood, cX12_hasStood, 6, (some .boolean))
abbrev YX12_ways : px_Y := (yX12_ways, cX12_ways, 7, (some .int))
abbrev YX12_stood : px_Y := (yX12_stood, cX12_stood, 2, (some .int))
abbrev YX12_stoodAt : px_Y := (yX12_stoodAt, cX12_stoodAt, 3, (some .int))
abbrev YX12_count : px_Y := (yX12_count, cX12_count, 4, (some .int))
abbrev YX12_isSheet : px_Y := (yX12_isSheet, cX12_isSheet, 1, (some .boolean))
abbrev YX12_sheet : px_Y := (yX12_sheet, cX12_sheet, 5, (some .int))
abbrev YX12_cell : px_Y := (yX12_cell, cX12_cell, 4, (some .int))
abbrev YX12_none : px_Y := (yX12_none, cX12_none, 3, (some .int))
abbrev YX12_taken : px_Y := (yX12_taken, cX12_taken, 3, (some .int))
abbrev YL_law : px_Y := (yL_law, cL_law, 4, (some .boolean))
