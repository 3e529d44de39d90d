/-- a private method of a class that the tables say can be made, by its rows of tables_1 -/
def lw_okq (q : MethodName × Nat) : Prop := (q.1.cls ≠ "java/lang/invoke/MethodHandle" ∧ q.1.cls ≠ "java/lang/invoke/VarHandle") ∧ Cond.instantiable q.1.cls q.2 ∈ tables_1 ∧ Cond.privateMethod q.1 ∈ tables_1 ∧ Cond.instanceMethod q.1 ∈ tables_1
theorem lw_p0 : lw_okq (⟨"WreckField$Survey", "forgetRounds", "()V"⟩, 18) := ⟨⟨by decide +kernel, by decide +kernel⟩, List.mem_of_getElem? (i := 28) (by decide +kernel), List.mem_of_getElem? (i := 335) (by decide +kernel), List.mem_of_getElem? (i := 336) (by decide +kernel)⟩
theorem lw_p1 : lw_okq (⟨"WreckField$Survey", "hasMark", "(I)Z"⟩, 18) := ⟨⟨by decide +kernel, by decide +kernel⟩, List.mem_of_getElem? (i := 28) (by decide +kernel), List.mem_of_getElem? (i := 347) (by decide +kernel), List.mem_of_getElem? (i := 348) (by decide +kernel)⟩
theorem lw_p2 : lw_okq (⟨"WreckField", "tapeFrom", "(II)I"⟩, 8) := ⟨⟨by decide +kernel, by decide +kernel⟩, List.mem_of_getElem? (i := 20) (by decide +kernel), List.mem_of_getElem? (i := 367) (by decide +kernel), List.mem_of_getElem? (i := 368) (by decide +kernel)⟩
theorem lw_p3 : lw_okq (⟨"WreckField$Survey", "fitIfNew", "(I)V"⟩, 18) := ⟨⟨by decide +kernel, by decide +kernel⟩, List.mem_of_getElem? (i := 28) (by decide +kernel), List.mem_of_getElem? (i := 401) (by decide +kernel), List.mem_of_getElem? (i := 402) (by decide +kernel)⟩
theorem lw_p4 : lw_okq (⟨"WreckField$Survey", "goToTold", "(I)V"⟩, 18) := ⟨⟨by decide +kernel, by decide +kernel⟩, List.mem_of_getElem? (i := 28) (by decide +kernel), List.mem_of_getElem? (i := 405) (by decide +kernel), List.mem_of_getElem? (i := 406) (by decide +kernel)⟩
theorem lw_p5 : lw_okq (⟨"WreckField$Survey", "moveMark", "(III)Z"⟩, 18) := ⟨⟨by decide +kernel, by decide +kernel⟩, List.mem_of_getElem? (i := 28) (by decide +kernel), List.mem_of_getElem? (i := 409) (by decide +kernel), List.mem_of_getElem? (i := 410) (by decide +kernel)⟩
theorem lw_p6 : lw_okq (⟨"WreckField$Survey", "gatherNear", "(II)V"⟩, 18) := ⟨⟨by decide +kernel, by decide +kernel⟩, List.mem_of_getElem? (i := 28) (by decide +kernel), List.mem_of_getElem? (i := 413) (by decide +kernel), List.mem_of_getElem? (i := 414) (by decide +kernel)⟩
theorem lw_p7 : lw_okq (⟨"WreckField$Survey", "isOut", "(II)Z"⟩, 18) := ⟨⟨by decide +kernel, by decide +kernel⟩, List.mem_of_getElem? (i := 28) (by decide +kernel), List.mem_of_getElem? (i := 417) (by decide +kernel), List.mem_of_getElem? (i := 418) (by decide +kernel)⟩
theorem lw_p8 : lw_okq (⟨"WreckField$Survey", "nearSquares", "(IIJ)J"⟩, 18) := ⟨⟨by decide +kernel, by decide +kernel⟩, List.mem_of_getElem? (i := 28) (by decide +kernel), List.mem_of_getElem? (i := 422) (by decide +kernel), List.mem_of_getElem? (i := 423) (by decide +kernel)⟩
theorem lw_p9 : lw_okq (⟨"WreckField$Survey", "judge", "(I)V"⟩, 18) := ⟨⟨by decide +kernel, by decide +kernel⟩, List.mem_of_getElem? (i := 28) (by decide +kernel), List.mem_of_getElem? (i := 429) (by decide +kernel), List.mem_of_getElem? (i := 430) (by decide +kernel)⟩
theorem lw_p10 : lw_okq (⟨"WreckField$Survey", "miss", "(II)I"⟩, 18) := ⟨⟨by decide +kernel, by decide +kernel⟩, List.mem_of_getElem? (i := 28) (by decide +kernel), List.mem_of_getElem? (i := 433) (by decide +kernel), List.mem_of_getElem? (i := 434) (by decide +kernel)⟩
theorem lw_p11 : lw_okq (⟨"WreckField$Yard", "sizesIn", "(I)I"⟩, 5) := ⟨⟨by decide +kernel, by decide +kernel⟩, List.mem_of_getElem? (i := 93) (by decide +kernel), List.mem_of_getElem? (i := 560) (by decide +kernel), List.mem_of_getElem? (i := 561) (by decide +kernel)⟩
theorem lw_p12 : lw_okq (⟨"WreckField$Yard", "findsIn", "(I)I"⟩, 5) := ⟨⟨by decide +kernel, by decide +kernel⟩, List.mem_of_getElem? (i := 93) (by decide +kernel), List.mem_of_getElem? (i := 564) (by decide +kernel), List.mem_of_getElem? (i := 565) (by decide +kernel)⟩
theorem lw_p13 : lw_okq (⟨"WreckField", "liftRefusal", "(III)I"⟩, 8) := ⟨⟨by decide +kernel, by decide +kernel⟩, List.mem_of_getElem? (i := 20) (by decide +kernel), List.mem_of_getElem? (i := 572) (by decide +kernel), List.mem_of_getElem? (i := 573) (by decide +kernel)⟩
theorem lw_p14 : lw_okq (⟨"WreckField$DiveLog", "firstRowFrom", "(I)I"⟩, 7) := ⟨⟨by decide +kernel, by decide +kernel⟩, List.mem_of_getElem? (i := 120) (by decide +kernel), List.mem_of_getElem? (i := 651) (by decide +kernel), List.mem_of_getElem? (i := 652) (by decide +kernel)⟩
theorem lw_p15 : lw_okq (⟨"WreckField$DiveLog", "openRow", "(I)V"⟩, 7) := ⟨⟨by decide +kernel, by decide +kernel⟩, List.mem_of_getElem? (i := 120) (by decide +kernel), List.mem_of_getElem? (i := 655) (by decide +kernel), List.mem_of_getElem? (i := 656) (by decide +kernel)⟩
def lw_privs_1 : List (MethodName × Nat) := [(⟨"WreckField$Survey", "forgetRounds", "()V"⟩, 18), (⟨"WreckField$Survey", "hasMark", "(I)Z"⟩, 18), (⟨"WreckField", "tapeFrom", "(II)I"⟩, 8), (⟨"WreckField$Survey", "fitIfNew", "(I)V"⟩, 18), (⟨"WreckField$Survey", "goToTold", "(I)V"⟩, 18), (⟨"WreckField$Survey", "moveMark", "(III)Z"⟩, 18), (⟨"WreckField$Survey", "gatherNear", "(II)V"⟩, 18), (⟨"WreckField$Survey", "isOut", "(II)Z"⟩, 18), (⟨"WreckField$Survey", "nearSquares", "(IIJ)J"⟩, 18), (⟨"WreckField$Survey", "judge", "(I)V"⟩, 18), (⟨"WreckField$Survey", "miss", "(II)I"⟩, 18), (⟨"WreckField$Yard", "sizesIn", "(I)I"⟩, 5), (⟨"WreckField$Yard", "findsIn", "(I)I"⟩, 5), (⟨"WreckField", "liftRefusal", "(III)I"⟩, 8), (⟨"WreckField$DiveLog", "firstRowFrom", "(I)I"⟩, 7), (⟨"WreckField$DiveLog", "openRow", "(I)V"⟩, 7)]
theorem lw_r1 : ∀ q ∈ lw_privs_1, lw_okq q := List.forall_mem_cons.mpr ⟨lw_p0, List.forall_mem_cons.mpr ⟨lw_p1, List.forall_mem_cons.mpr ⟨lw_p2, List.forall_mem_cons.mpr ⟨lw_p3, List.forall_mem_cons.mpr ⟨lw_p4, List.forall_mem_cons.mpr ⟨lw_p5, List.forall_mem_cons.mpr ⟨lw_p6, List.forall_mem_cons.mpr ⟨lw_p7, List.forall_mem_cons.mpr ⟨lw_p8, List.forall_mem_cons.mpr ⟨lw_p9, List.forall_mem_cons.mpr ⟨lw_p10, List.forall_mem_cons.mpr ⟨lw_p11, List.forall_mem_cons.mpr ⟨lw_p12, List.forall_mem_cons.mpr ⟨lw_p13, List.forall_mem_cons.mpr ⟨lw_p14, List.forall_mem_cons.mpr ⟨lw_p15, fun _ h => absurd h List.not_mem_nil⟩⟩⟩⟩⟩⟩⟩⟩⟩⟩⟩⟩⟩⟩⟩⟩
theorem lw_p16 : lw_okq (⟨"WreckField$DiveLog", "tableRefusal", "(II)I"⟩, 7) := ⟨⟨by decide +kernel, by decide +kernel⟩, List.mem_of_getElem? (i := 120) (by decide +kernel), List.mem_of_getElem? (i := 676) (by decide +kernel), List.mem_of_getElem? (i := 677) (by decide +kernel)⟩
theorem lw_p17 : lw_okq (⟨"WreckField$DiveLog", "restAfter", "(I)I"⟩, 7) := ⟨⟨by decide +kernel, by decide +kernel⟩, List.mem_of_getElem? (i := 120) (by decide +kernel), List.mem_of_getElem? (i := 680) (by decide +kernel), List.mem_of_getElem? (i := 681) (by decide +kernel)⟩
theorem lw_p18 : lw_okq (⟨"WreckField$DiveLog", "timeRefusal", "(IIIII)I"⟩, 7) := ⟨⟨by decide +kernel, by decide +kernel⟩, List.mem_of_getElem? (i := 120) (by decide +kernel), List.mem_of_getElem? (i := 684) (by decide +kernel), List.mem_of_getElem? (i := 685) (by decide +kernel)⟩
theorem lw_p19 : lw_okq (⟨"WreckField$DiveLog", "isTooNear", "(LWreckField$Dive;III)Z"⟩, 7) := ⟨⟨by decide +kernel, by decide +kernel⟩, List.mem_of_getElem? (i := 120) (by decide +kernel), List.mem_of_getElem? (i := 700) (by decide +kernel), List.mem_of_getElem? (i := 701) (by decide +kernel)⟩
theorem lw_p20 : lw_okq (⟨"WreckField$DiveLog", "pastHindrance", "(IIIII)I"⟩, 7) := ⟨⟨by decide +kernel, by decide +kernel⟩, List.mem_of_getElem? (i := 120) (by decide +kernel), List.mem_of_getElem? (i := 766) (by decide +kernel), List.mem_of_getElem? (i := 767) (by decide +kernel)⟩
theorem lw_p21 : lw_okq (⟨"WreckField$RuleReader", "next", "()V"⟩, 8) := ⟨⟨by decide +kernel, by decide +kernel⟩, List.mem_of_getElem? (i := 153) (by decide +kernel), List.mem_of_getElem? (i := 791) (by decide +kernel), List.mem_of_getElem? (i := 792) (by decide +kernel)⟩
theorem lw_p22 : lw_okq (⟨"WreckField$RuleReader", "takeWord", "()V"⟩, 8) := ⟨⟨by decide +kernel, by decide +kernel⟩, List.mem_of_getElem? (i := 153) (by decide +kernel), List.mem_of_getElem? (i := 798) (by decide +kernel), List.mem_of_getElem? (i := 799) (by decide +kernel)⟩
theorem lw_p23 : lw_okq (⟨"WreckField$RuleReader", "isAtHand", "(Ljava/lang/String;)Z"⟩, 8) := ⟨⟨by decide +kernel, by decide +kernel⟩, List.mem_of_getElem? (i := 153) (by decide +kernel), List.mem_of_getElem? (i := 815) (by decide +kernel), List.mem_of_getElem? (i := 816) (by decide +kernel)⟩
theorem lw_p24 : lw_okq (⟨"WreckField$RuleReader", "takeNumber", "()V"⟩, 8) := ⟨⟨by decide +kernel, by decide +kernel⟩, List.mem_of_getElem? (i := 153) (by decide +kernel), List.mem_of_getElem? (i := 870) (by decide +kernel), List.mem_of_getElem? (i := 871) (by decide +kernel)⟩
theorem lw_p25 : lw_okq (⟨"WreckField$RuleReader", "readBars", "()Z"⟩, 8) := ⟨⟨by decide +kernel, by decide +kernel⟩, List.mem_of_getElem? (i := 153) (by decide +kernel), List.mem_of_getElem? (i := 877) (by decide +kernel), List.mem_of_getElem? (i := 878) (by decide +kernel)⟩
theorem lw_p26 : lw_okq (⟨"WreckField$RuleReader", "readOr", "(I)Z"⟩, 8) := ⟨⟨by decide +kernel, by decide +kernel⟩, List.mem_of_getElem? (i := 153) (by decide +kernel), List.mem_of_getElem? (i := 881) (by decide +kernel), List.mem_of_getElem? (i := 882) (by decide +kernel)⟩
theorem lw_p27 : lw_okq (⟨"WreckField$RuleReader", "readAnd", "(I)Z"⟩, 8) := ⟨⟨by decide +kernel, by decide +kernel⟩, List.mem_of_getElem? (i := 153) (by decide +kernel), List.mem_of_getElem? (i := 885) (by decide +kernel), List.mem_of_getElem? (i := 886) (by decide +kernel)⟩
theorem lw_p28 : lw_okq (⟨"WreckField$RuleReader", "readNot", "(I)Z"⟩, 8) := ⟨⟨by decide +kernel, by decide +kernel⟩, List.mem_of_getElem? (i := 153) (by decide +kernel), List.mem_of_getElem? (i := 889) (by decide +kernel), List.mem_of_getElem? (i := 890) (by decide +kernel)⟩
theorem lw_p29 : lw_okq (⟨"WreckField$RuleReader", "readCompared", "(I)Z"⟩, 8) := ⟨⟨by decide +kernel, by decide +kernel⟩, List.mem_of_getElem? (i := 153) (by decide +kernel), List.mem_of_getElem? (i := 893) (by decide +kernel), List.mem_of_getElem? (i := 894) (by decide +kernel)⟩
theorem lw_p30 : lw_okq (⟨"WreckField$RuleReader", "readSum", "(I)Z"⟩, 8) := ⟨⟨by decide +kernel, by decide +kernel⟩, List.mem_of_getElem? (i := 153) (by decide +kernel), List.mem_of_getElem? (i := 897) (by decide +kernel), List.mem_of_getElem? (i := 898) (by decide +kernel)⟩
theorem lw_p31 : lw_okq (⟨"WreckField$RuleReader", "readTerm", "(I)Z"⟩, 8) := ⟨⟨by decide +kernel, by decide +kernel⟩, List.mem_of_getElem? (i := 153) (by decide +kernel), List.mem_of_getElem? (i := 901) (by decide +kernel), List.mem_of_getElem? (i := 902) (by decide +kernel)⟩
def lw_privs_2 : List (MethodName × Nat) := [(⟨"WreckField$DiveLog", "tableRefusal", "(II)I"⟩, 7), (⟨"WreckField$DiveLog", "restAfter", "(I)I"⟩, 7), (⟨"WreckField$DiveLog", "timeRefusal", "(IIIII)I"⟩, 7), (⟨"WreckField$DiveLog", "isTooNear", "(LWreckField$Dive;III)Z"⟩, 7), (⟨"WreckField$DiveLog", "pastHindrance", "(IIIII)I"⟩, 7), (⟨"WreckField$RuleReader", "next", "()V"⟩, 8), (⟨"WreckField$RuleReader", "takeWord", "()V"⟩, 8), (⟨"WreckField$RuleReader", "isAtHand", "(Ljava/lang/String;)Z"⟩, 8), (⟨"WreckField$RuleReader", "takeNumber", "()V"⟩, 8), (⟨"WreckField$RuleReader", "readBars", "()Z"⟩, 8), (⟨"WreckField$RuleReader", "readOr", "(I)Z"⟩, 8), (⟨"WreckField$RuleReader", "readAnd", "(I)Z"⟩, 8), (⟨"WreckField$RuleReader", "readNot", "(I)Z"⟩, 8), (⟨"WreckField$RuleReader", "readCompared", "(I)Z"⟩, 8), (⟨"WreckField$RuleReader", "readSum", "(I)Z"⟩, 8), (⟨"WreckField$RuleReader", "readTerm", "(I)Z"⟩, 8)]
theorem lw_r2 : ∀ q ∈ lw_privs_2, lw_okq q := List.forall_mem_cons.mpr ⟨lw_p16, List.forall_mem_cons.mpr ⟨lw_p17, List.forall_mem_cons.mpr ⟨lw_p18, List.forall_mem_cons.mpr ⟨lw_p19, List.forall_mem_cons.mpr ⟨lw_p20, List.forall_mem_cons.mpr ⟨lw_p21, List.forall_mem_cons.mpr ⟨lw_p22, List.forall_mem_cons.mpr ⟨lw_p23, List.forall_mem_cons.mpr ⟨lw_p24, List.forall_mem_cons.mpr ⟨lw_p25, List.forall_mem_cons.mpr ⟨lw_p26, List.forall_mem_cons.mpr ⟨lw_p27, List.forall_mem_cons.mpr ⟨lw_p28, List.forall_mem_cons.mpr ⟨lw_p29, List.forall_mem_cons.mpr ⟨lw_p30, List.forall_mem_cons.mpr ⟨lw_p31, fun _ h => absurd h List.not_mem_nil⟩⟩⟩⟩⟩⟩⟩⟩⟩⟩⟩⟩⟩⟩⟩⟩
theorem lw_p32 : lw_okq (⟨"WreckField$RuleReader", "readOne", "(I)Z"⟩, 8) := ⟨⟨by decide +kernel, by decide +kernel⟩, List.mem_of_getElem? (i := 153) (by decide +kernel), List.mem_of_getElem? (i := 905) (by decide +kernel), List.mem_of_getElem? (i := 906) (by decide +kernel)⟩
theorem lw_p33 : lw_okq (⟨"WreckField$RuleReader", "readNegated", "(I)Z"⟩, 8) := ⟨⟨by decide +kernel, by decide +kernel⟩, List.mem_of_getElem? (i := 153) (by decide +kernel), List.mem_of_getElem? (i := 913) (by decide +kernel), List.mem_of_getElem? (i := 914) (by decide +kernel)⟩
theorem lw_p34 : lw_okq (⟨"WreckField$RuleReader", "readInner", "(I)Z"⟩, 8) := ⟨⟨by decide +kernel, by decide +kernel⟩, List.mem_of_getElem? (i := 153) (by decide +kernel), List.mem_of_getElem? (i := 917) (by decide +kernel), List.mem_of_getElem? (i := 918) (by decide +kernel)⟩
theorem lw_p35 : lw_okq (⟨"WreckField$Timbers", "takeIfGreater", "(I)V"⟩, 3) := ⟨⟨by decide +kernel, by decide +kernel⟩, List.mem_of_getElem? (i := 213) (by decide +kernel), List.mem_of_getElem? (i := 940) (by decide +kernel), List.mem_of_getElem? (i := 941) (by decide +kernel)⟩
theorem lw_p36 : lw_okq (⟨"WreckField$Planner", "planIfNew", "()V"⟩, 10) := ⟨⟨by decide +kernel, by decide +kernel⟩, List.mem_of_getElem? (i := 231) (by decide +kernel), List.mem_of_getElem? (i := 984) (by decide +kernel), List.mem_of_getElem? (i := 985) (by decide +kernel)⟩
theorem lw_p37 : lw_okq (⟨"WreckField$Planner", "giveToGang", "(II)V"⟩, 10) := ⟨⟨by decide +kernel, by decide +kernel⟩, List.mem_of_getElem? (i := 231) (by decide +kernel), List.mem_of_getElem? (i := 988) (by decide +kernel), List.mem_of_getElem? (i := 989) (by decide +kernel)⟩
theorem lw_p38 : lw_okq (⟨"WreckField$Planner", "keepPlan", "(J)V"⟩, 10) := ⟨⟨by decide +kernel, by decide +kernel⟩, List.mem_of_getElem? (i := 231) (by decide +kernel), List.mem_of_getElem? (i := 995) (by decide +kernel), List.mem_of_getElem? (i := 996) (by decide +kernel)⟩
theorem lw_p39 : lw_okq (⟨"WreckField$Wreck", "placeOn", "(ILWreckField$Find;)I"⟩, 2) := ⟨⟨by decide +kernel, by decide +kernel⟩, List.mem_of_getElem? (i := 271) (by decide +kernel), List.mem_of_getElem? (i := 1031) (by decide +kernel), List.mem_of_getElem? (i := 1032) (by decide +kernel)⟩
theorem lw_p40 : lw_okq (⟨"WreckField$Wreck", "decksDown", "(I)I"⟩, 2) := ⟨⟨by decide +kernel, by decide +kernel⟩, List.mem_of_getElem? (i := 271) (by decide +kernel), List.mem_of_getElem? (i := 1035) (by decide +kernel), List.mem_of_getElem? (i := 1036) (by decide +kernel)⟩
theorem lw_p41 : lw_okq (⟨"WreckFieldModel", "isMark", "(I)Z"⟩, 69) := ⟨⟨by decide +kernel, by decide +kernel⟩, List.mem_of_getElem? (i := 1095) (by decide +kernel), List.mem_of_getElem? (i := 1320) (by decide +kernel), List.mem_of_getElem? (i := 1321) (by decide +kernel)⟩
theorem lw_p42 : lw_okq (⟨"WreckFieldModel", "knows", "()V"⟩, 69) := ⟨⟨by decide +kernel, by decide +kernel⟩, List.mem_of_getElem? (i := 1095) (by decide +kernel), List.mem_of_getElem? (i := 1341) (by decide +kernel), List.mem_of_getElem? (i := 1342) (by decide +kernel)⟩
theorem lw_p43 : lw_okq (⟨"WreckFieldModel", "fits", "()V"⟩, 69) := ⟨⟨by decide +kernel, by decide +kernel⟩, List.mem_of_getElem? (i := 1095) (by decide +kernel), List.mem_of_getElem? (i := 1345) (by decide +kernel), List.mem_of_getElem? (i := 1346) (by decide +kernel)⟩
theorem lw_p44 : lw_okq (⟨"WreckFieldModel", "goes", "(II)V"⟩, 69) := ⟨⟨by decide +kernel, by decide +kernel⟩, List.mem_of_getElem? (i := 1095) (by decide +kernel), List.mem_of_getElem? (i := 1349) (by decide +kernel), List.mem_of_getElem? (i := 1350) (by decide +kernel)⟩
theorem lw_p45 : lw_okq (⟨"WreckFieldModel", "misses", "(I)J"⟩, 69) := ⟨⟨by decide +kernel, by decide +kernel⟩, List.mem_of_getElem? (i := 1095) (by decide +kernel), List.mem_of_getElem? (i := 1353) (by decide +kernel), List.mem_of_getElem? (i := 1354) (by decide +kernel)⟩
theorem lw_p46 : lw_okq (⟨"WreckFieldModel", "miss", "(I)I"⟩, 69) := ⟨⟨by decide +kernel, by decide +kernel⟩, List.mem_of_getElem? (i := 1095) (by decide +kernel), List.mem_of_getElem? (i := 1357) (by decide +kernel), List.mem_of_getElem? (i := 1358) (by decide +kernel)⟩
theorem lw_p47 : lw_okq (⟨"WreckFieldModel", "isTimber", "(I)Z"⟩, 69) := ⟨⟨by decide +kernel, by decide +kernel⟩, List.mem_of_getElem? (i := 1095) (by decide +kernel), List.mem_of_getElem? (i := 1382) (by decide +kernel), List.mem_of_getElem? (i := 1383) (by decide +kernel)⟩
def lw_privs_3 : List (MethodName × Nat) := [(⟨"WreckField$RuleReader", "readOne", "(I)Z"⟩, 8), (⟨"WreckField$RuleReader", "readNegated", "(I)Z"⟩, 8), (⟨"WreckField$RuleReader", "readInner", "(I)Z"⟩, 8), (⟨"WreckField$Timbers", "takeIfGreater", "(I)V"⟩, 3), (⟨"WreckField$Planner", "planIfNew", "()V"⟩, 10), (⟨"WreckField$Planner", "giveToGang", "(II)V"⟩, 10), (⟨"WreckField$Planner", "keepPlan", "(J)V"⟩, 10), (⟨"WreckField$Wreck", "placeOn", "(ILWreckField$Find;)I"⟩, 2), (⟨"WreckField$Wreck", "decksDown", "(I)I"⟩, 2), (⟨"WreckFieldModel", "isMark", "(I)Z"⟩, 69), (⟨"WreckFieldModel", "knows", "()V"⟩, 69), (⟨"WreckFieldModel", "fits", "()V"⟩, 69), (⟨"WreckFieldModel", "goes", "(II)V"⟩, 69), (⟨"WreckFieldModel", "misses", "(I)J"⟩, 69), (⟨"WreckFieldModel", "miss", "(I)I"⟩, 69), (⟨"WreckFieldModel", "isTimber", "(I)Z"⟩, 69)]
theorem lw_r3 : ∀ q ∈ lw_privs_3, lw_okq q := List.forall_mem_cons.mpr ⟨lw_p32, List.forall_mem_cons.mpr ⟨lw_p33, List.forall_mem_cons.mpr ⟨lw_p34, List.forall_mem_cons.mpr ⟨lw_p35, List.forall_mem_cons.mpr ⟨lw_p36, List.forall_mem_cons.mpr ⟨lw_p37, List.forall_mem_cons.mpr ⟨lw_p38, List.forall_mem_cons.mpr ⟨lw_p39, List.forall_mem_cons.mpr ⟨lw_p40, List.forall_mem_cons.mpr ⟨lw_p41, List.forall_mem_cons.mpr ⟨lw_p42, List.forall_mem_cons.mpr ⟨lw_p43, List.forall_mem_cons.mpr ⟨lw_p44, List.forall_mem_cons.mpr ⟨lw_p45, List.forall_mem_cons.mpr ⟨lw_p46, List.forall_mem_cons.mpr ⟨lw_p47, fun _ h => absurd h List.not_mem_nil⟩⟩⟩⟩⟩⟩⟩⟩⟩⟩⟩⟩⟩⟩⟩⟩
theorem lw_p48 : lw_okq (⟨"WreckFieldModel", "isFind", "(I)Z"⟩, 69) := ⟨⟨by decide +kernel, by decide +kernel⟩, List.mem_of_getElem? (i := 1095) (by decide +kernel), List.mem_of_getElem? (i := 1386) (by decide +kernel), List.mem_of_getElem? (i := 1387) (by decide +kernel)⟩
theorem lw_p49 : lw_okq (⟨"WreckFieldModel", "weeks", "(I)I"⟩, 69) := ⟨⟨by decide +kernel, by decide +kernel⟩, List.mem_of_getElem? (i := 1095) (by decide +kernel), List.mem_of_getElem? (i := 1394) (by decide +kernel), List.mem_of_getElem? (i := 1395) (by decide +kernel)⟩
theorem lw_p50 : lw_okq (⟨"WreckFieldModel", "inTank", "(IZ)I"⟩, 69) := ⟨⟨by decide +kernel, by decide +kernel⟩, List.mem_of_getElem? (i := 1095) (by decide +kernel), List.mem_of_getElem? (i := 1406) (by decide +kernel), List.mem_of_getElem? (i := 1407) (by decide +kernel)⟩
theorem lw_p51 : lw_okq (⟨"WreckFieldModel", "hinders", "(III)I"⟩, 69) := ⟨⟨by decide +kernel, by decide +kernel⟩, List.mem_of_getElem? (i := 1095) (by decide +kernel), List.mem_of_getElem? (i := 1417) (by decide +kernel), List.mem_of_getElem? (i := 1418) (by decide +kernel)⟩
theorem lw_p52 : lw_okq (⟨"WreckFieldModel", "worked", "(III)I"⟩, 69) := ⟨⟨by decide +kernel, by decide +kernel⟩, List.mem_of_getElem? (i := 1095) (by decide +kernel), List.mem_of_getElem? (i := 1424) (by decide +kernel), List.mem_of_getElem? (i := 1425) (by decide +kernel)⟩
theorem lw_p53 : lw_okq (⟨"WreckFieldModel", "named", "(III)I"⟩, 69) := ⟨⟨by decide +kernel, by decide +kernel⟩, List.mem_of_getElem? (i := 1095) (by decide +kernel), List.mem_of_getElem? (i := 1428) (by decide +kernel), List.mem_of_getElem? (i := 1429) (by decide +kernel)⟩
theorem lw_p54 : lw_okq (⟨"WreckFieldModel", "isDive", "(IIIII)Z"⟩, 69) := ⟨⟨by decide +kernel, by decide +kernel⟩, List.mem_of_getElem? (i := 1095) (by decide +kernel), List.mem_of_getElem? (i := 1456) (by decide +kernel), List.mem_of_getElem? (i := 1457) (by decide +kernel)⟩
theorem lw_p55 : lw_okq (⟨"WreckFieldModel", "refused", "(IIIII)I"⟩, 69) := ⟨⟨by decide +kernel, by decide +kernel⟩, List.mem_of_getElem? (i := 1095) (by decide +kernel), List.mem_of_getElem? (i := 1461) (by decide +kernel), List.mem_of_getElem? (i := 1462) (by decide +kernel)⟩
theorem lw_p56 : lw_okq (⟨"WreckFieldModel", "rowOf", "(I)I"⟩, 69) := ⟨⟨by decide +kernel, by decide +kernel⟩, List.mem_of_getElem? (i := 1095) (by decide +kernel), List.mem_of_getElem? (i := 1465) (by decide +kernel), List.mem_of_getElem? (i := 1466) (by decide +kernel)⟩
theorem lw_p57 : lw_okq (⟨"WreckFieldModel", "clashes", "(IIIII)I"⟩, 69) := ⟨⟨by decide +kernel, by decide +kernel⟩, List.mem_of_getElem? (i := 1095) (by decide +kernel), List.mem_of_getElem? (i := 1469) (by decide +kernel), List.mem_of_getElem? (i := 1470) (by decide +kernel)⟩
theorem lw_p58 : lw_okq (⟨"WreckFieldModel", "isOf", "(III)Z"⟩, 69) := ⟨⟨by decide +kernel, by decide +kernel⟩, List.mem_of_getElem? (i := 1095) (by decide +kernel), List.mem_of_getElem? (i := 1473) (by decide +kernel), List.mem_of_getElem? (i := 1474) (by decide +kernel)⟩
theorem lw_p59 : lw_okq (⟨"WreckFieldModel", "restOf", "(I)I"⟩, 69) := ⟨⟨by decide +kernel, by decide +kernel⟩, List.mem_of_getElem? (i := 1095) (by decide +kernel), List.mem_of_getElem? (i := 1477) (by decide +kernel), List.mem_of_getElem? (i := 1478) (by decide +kernel)⟩
theorem lw_p60 : lw_okq (⟨"WreckFieldModel", "minutesOn", "(II)I"⟩, 69) := ⟨⟨by decide +kernel, by decide +kernel⟩, List.mem_of_getElem? (i := 1095) (by decide +kernel), List.mem_of_getElem? (i := 1481) (by decide +kernel), List.mem_of_getElem? (i := 1482) (by decide +kernel)⟩
theorem lw_p61 : lw_okq (⟨"WreckFieldModel", "reads", "()I"⟩, 69) := ⟨⟨by decide +kernel, by decide +kernel⟩, List.mem_of_getElem? (i := 1095) (by decide +kernel), List.mem_of_getElem? (i := 1507) (by decide +kernel), List.mem_of_getElem? (i := 1508) (by decide +kernel)⟩
theorem lw_p62 : lw_okq (⟨"WreckFieldModel", "next", "()V"⟩, 69) := ⟨⟨by decide +kernel, by decide +kernel⟩, List.mem_of_getElem? (i := 1095) (by decide +kernel), List.mem_of_getElem? (i := 1511) (by decide +kernel), List.mem_of_getElem? (i := 1512) (by decide +kernel)⟩
theorem lw_p63 : lw_okq (⟨"WreckFieldModel", "byteAt", "(I)I"⟩, 69) := ⟨⟨by decide +kernel, by decide +kernel⟩, List.mem_of_getElem? (i := 1095) (by decide +kernel), List.mem_of_getElem? (i := 1515) (by decide +kernel), List.mem_of_getElem? (i := 1516) (by decide +kernel)⟩
def lw_privs_4 : List (MethodName × Nat) := [(⟨"WreckFieldModel", "isFind", "(I)Z"⟩, 69), (⟨"WreckFieldModel", "weeks", "(I)I"⟩, 69), (⟨"WreckFieldModel", "inTank", "(IZ)I"⟩, 69), (⟨"WreckFieldModel", "hinders", "(III)I"⟩, 69), (⟨"WreckFieldModel", "worked", "(III)I"⟩, 69), (⟨"WreckFieldModel", "named", "(III)I"⟩, 69), (⟨"WreckFieldModel", "isDive", "(IIIII)Z"⟩, 69), (⟨"WreckFieldModel", "refused", "(IIIII)I"⟩, 69), (⟨"WreckFieldModel", "rowOf", "(I)I"⟩, 69), (⟨"WreckFieldModel", "clashes", "(IIIII)I"⟩, 69), (⟨"WreckFieldModel", "isOf", "(III)Z"⟩, 69), (⟨"WreckFieldModel", "restOf", "(I)I"⟩, 69), (⟨"WreckFieldModel", "minutesOn", "(II)I"⟩, 69), (⟨"WreckFieldModel", "reads", "()I"⟩, 69), (⟨"WreckFieldModel", "next", "()V"⟩, 69), (⟨"WreckFieldModel", "byteAt", "(I)I"⟩, 69)]
theorem lw_r4 : ∀ q ∈ lw_privs_4, lw_okq q := List.forall_mem_cons.mpr ⟨lw_p48, List.forall_mem_cons.mpr ⟨lw_p49, List.forall_mem_cons.mpr ⟨lw_p50, List.forall_mem_cons.mpr ⟨lw_p51, List.forall_mem_cons.mpr ⟨lw_p52, List.forall_mem_cons.mpr ⟨lw_p53, List.forall_mem_cons.mpr ⟨lw_p54, List.forall_mem_cons.mpr ⟨lw_p55, List.forall_mem_cons.mpr ⟨lw_p56, List.forall_mem_cons.mpr ⟨lw_p57, List.forall_mem_cons.mpr ⟨lw_p58, List.forall_mem_cons.mpr ⟨lw_p59, List.forall_mem_cons.mpr ⟨lw_p60, List.forall_mem_cons.mpr ⟨lw_p61, List.forall_mem_cons.mpr ⟨lw_p62, List.forall_mem_cons.mpr ⟨lw_p63, fun _ h => absurd h List.not_mem_nil⟩⟩⟩⟩⟩⟩⟩⟩⟩⟩⟩⟩⟩⟩⟩⟩
theorem lw_p64 : lw_okq (⟨"WreckFieldModel", "word", "()V"⟩, 69) := ⟨⟨by decide +kernel, by decide +kernel⟩, List.mem_of_getElem? (i := 1095) (by decide +kernel), List.mem_of_getElem? (i := 1522) (by decide +kernel), List.mem_of_getElem? (i := 1523) (by decide +kernel)⟩
theorem lw_p65 : lw_okq (⟨"WreckFieldModel", "number", "()V"⟩, 69) := ⟨⟨by decide +kernel, by decide +kernel⟩, List.mem_of_getElem? (i := 1095) (by decide +kernel), List.mem_of_getElem? (i := 1529) (by decide +kernel), List.mem_of_getElem? (i := 1530) (by decide +kernel)⟩
theorem lw_p66 : lw_okq (⟨"WreckFieldModel", "isWrong", "()Z"⟩, 69) := ⟨⟨by decide +kernel, by decide +kernel⟩, List.mem_of_getElem? (i := 1095) (by decide +kernel), List.mem_of_getElem? (i := 1533) (by decide +kernel), List.mem_of_getElem? (i := 1534) (by decide +kernel)⟩
theorem lw_p67 : lw_okq (⟨"WreckFieldModel", "cannot", "()V"⟩, 69) := ⟨⟨by decide +kernel, by decide +kernel⟩, List.mem_of_getElem? (i := 1095) (by decide +kernel), List.mem_of_getElem? (i := 1537) (by decide +kernel), List.mem_of_getElem? (i := 1538) (by decide +kernel)⟩
theorem lw_p68 : lw_okq (⟨"WreckFieldModel", "need", "(I)V"⟩, 69) := ⟨⟨by decide +kernel, by decide +kernel⟩, List.mem_of_getElem? (i := 1095) (by decide +kernel), List.mem_of_getElem? (i := 1541) (by decide +kernel), List.mem_of_getElem? (i := 1542) (by decide +kernel)⟩
theorem lw_p69 : lw_okq (⟨"WreckFieldModel", "either", "()V"⟩, 69) := ⟨⟨by decide +kernel, by decide +kernel⟩, List.mem_of_getElem? (i := 1095) (by decide +kernel), List.mem_of_getElem? (i := 1545) (by decide +kernel), List.mem_of_getElem? (i := 1546) (by decide +kernel)⟩
theorem lw_p70 : lw_okq (⟨"WreckFieldModel", "both", "()V"⟩, 69) := ⟨⟨by decide +kernel, by decide +kernel⟩, List.mem_of_getElem? (i := 1095) (by decide +kernel), List.mem_of_getElem? (i := 1549) (by decide +kernel), List.mem_of_getElem? (i := 1550) (by decide +kernel)⟩
theorem lw_p71 : lw_okq (⟨"WreckFieldModel", "not", "()V"⟩, 69) := ⟨⟨by decide +kernel, by decide +kernel⟩, List.mem_of_getElem? (i := 1095) (by decide +kernel), List.mem_of_getElem? (i := 1553) (by decide +kernel), List.mem_of_getElem? (i := 1554) (by decide +kernel)⟩
theorem lw_p72 : lw_okq (⟨"WreckFieldModel", "opens", "()V"⟩, 69) := ⟨⟨by decide +kernel, by decide +kernel⟩, List.mem_of_getElem? (i := 1095) (by decide +kernel), List.mem_of_getElem? (i := 1557) (by decide +kernel), List.mem_of_getElem? (i := 1558) (by decide +kernel)⟩
theorem lw_p73 : lw_okq (⟨"WreckFieldModel", "emit", "(II)V"⟩, 69) := ⟨⟨by decide +kernel, by decide +kernel⟩, List.mem_of_getElem? (i := 1095) (by decide +kernel), List.mem_of_getElem? (i := 1561) (by decide +kernel), List.mem_of_getElem? (i := 1562) (by decide +kernel)⟩
theorem lw_p74 : lw_okq (⟨"WreckFieldModel", "added", "()V"⟩, 69) := ⟨⟨by decide +kernel, by decide +kernel⟩, List.mem_of_getElem? (i := 1095) (by decide +kernel), List.mem_of_getElem? (i := 1565) (by decide +kernel), List.mem_of_getElem? (i := 1566) (by decide +kernel)⟩
theorem lw_p75 : lw_okq (⟨"WreckFieldModel", "term", "()V"⟩, 69) := ⟨⟨by decide +kernel, by decide +kernel⟩, List.mem_of_getElem? (i := 1095) (by decide +kernel), List.mem_of_getElem? (i := 1569) (by decide +kernel), List.mem_of_getElem? (i := 1570) (by decide +kernel)⟩
theorem lw_p76 : lw_okq (⟨"WreckFieldModel", "one", "()V"⟩, 69) := ⟨⟨by decide +kernel, by decide +kernel⟩, List.mem_of_getElem? (i := 1095) (by decide +kernel), List.mem_of_getElem? (i := 1573) (by decide +kernel), List.mem_of_getElem? (i := 1574) (by decide +kernel)⟩
theorem lw_p77 : lw_okq (⟨"WreckFieldModel", "bonded", "(III)I"⟩, 69) := ⟨⟨by decide +kernel, by decide +kernel⟩, List.mem_of_getElem? (i := 1095) (by decide +kernel), List.mem_of_getElem? (i := 1585) (by decide +kernel), List.mem_of_getElem? (i := 1586) (by decide +kernel)⟩
theorem lw_p78 : lw_okq (⟨"WreckFieldModel", "shared", "(III)I"⟩, 69) := ⟨⟨by decide +kernel, by decide +kernel⟩, List.mem_of_getElem? (i := 1095) (by decide +kernel), List.mem_of_getElem? (i := 1589) (by decide +kernel), List.mem_of_getElem? (i := 1590) (by decide +kernel)⟩
theorem lw_p79 : lw_okq (⟨"WreckFieldModel", "bestOf", "(I)I"⟩, 69) := ⟨⟨by decide +kernel, by decide +kernel⟩, List.mem_of_getElem? (i := 1095) (by decide +kernel), List.mem_of_getElem? (i := 1597) (by decide +kernel), List.mem_of_getElem? (i := 1598) (by decide +kernel)⟩
def lw_privs_5 : List (MethodName × Nat) := [(⟨"WreckFieldModel", "word", "()V"⟩, 69), (⟨"WreckFieldModel", "number", "()V"⟩, 69), (⟨"WreckFieldModel", "isWrong", "()Z"⟩, 69), (⟨"WreckFieldModel", "cannot", "()V"⟩, 69), (⟨"WreckFieldModel", "need", "(I)V"⟩, 69), (⟨"WreckFieldModel", "either", "()V"⟩, 69), (⟨"WreckFieldModel", "both", "()V"⟩, 69), (⟨"WreckFieldModel", "not", "()V"⟩, 69), (⟨"WreckFieldModel", "opens", "()V"⟩, 69), (⟨"WreckFieldModel", "emit", "(II)V"⟩, 69), (⟨"WreckFieldModel", "added", "()V"⟩, 69), (⟨"WreckFieldModel", "term", "()V"⟩, 69), (⟨"WreckFieldModel", "one", "()V"⟩, 69), (⟨"WreckFieldModel", "bonded", "(III)I"⟩, 69), (⟨"WreckFieldModel", "shared", "(III)I"⟩, 69), (⟨"WreckFieldModel", "bestOf", "(I)I"⟩, 69)]
theorem lw_r5 : ∀ q ∈ lw_privs_5, lw_okq q := List.forall_mem_cons.mpr ⟨lw_p64, List.forall_mem_cons.mpr ⟨lw_p65, List.forall_mem_cons.mpr ⟨lw_p66, List.forall_mem_cons.mpr ⟨lw_p67, List.forall_mem_cons.mpr ⟨lw_p68, List.forall_mem_cons.mpr ⟨lw_p69, List.forall_mem_cons.mpr ⟨lw_p70, List.forall_mem_cons.mpr ⟨lw_p71, List.forall_mem_cons.mpr ⟨lw_p72, List.forall_mem_cons.mpr ⟨lw_p73, List.forall_mem_cons.mpr ⟨lw_p74, List.forall_mem_cons.mpr ⟨lw_p75, List.forall_mem_cons.mpr ⟨lw_p76, List.forall_mem_cons.mpr ⟨lw_p77, List.forall_mem_cons.mpr ⟨lw_p78, List.forall_mem_cons.mpr ⟨lw_p79, fun _ h => absurd h List.not_mem_nil⟩⟩⟩⟩⟩⟩⟩⟩⟩⟩⟩⟩⟩⟩⟩⟩
theorem lw_p80 : lw_okq (⟨"WreckFieldModel", "plans", "()V"⟩, 69) := ⟨⟨by decide +kernel, by decide +kernel⟩, List.mem_of_getElem? (i := 1095) (by decide +kernel), List.mem_of_getElem? (i := 1617) (by decide +kernel), List.mem_of_getElem? (i := 1618) (by decide +kernel)⟩
theorem lw_p81 : lw_okq (⟨"WreckFieldModel", "tries", "(III)V"⟩, 69) := ⟨⟨by decide +kernel, by decide +kernel⟩, List.mem_of_getElem? (i := 1095) (by decide +kernel), List.mem_of_getElem? (i := 1621) (by decide +kernel), List.mem_of_getElem? (i := 1622) (by decide +kernel)⟩
theorem lw_p82 : lw_okq (⟨"WreckFieldModel", "ways", "(IIZ)I"⟩, 69) := ⟨⟨by decide +kernel, by decide +kernel⟩, List.mem_of_getElem? (i := 1095) (by decide +kernel), List.mem_of_getElem? (i := 1641) (by decide +kernel), List.mem_of_getElem? (i := 1642) (by decide +kernel)⟩
theorem lw_p83 : lw_okq (⟨"WreckFieldModel", "hasStood", "(III)Z"⟩, 69) := ⟨⟨by decide +kernel, by decide +kernel⟩, List.mem_of_getElem? (i := 1095) (by decide +kernel), List.mem_of_getElem? (i := 1645) (by decide +kernel), List.mem_of_getElem? (i := 1646) (by decide +kernel)⟩
def lw_privs_6 : List (MethodName × Nat) := [(⟨"WreckFieldModel", "plans", "()V"⟩, 69), (⟨"WreckFieldModel", "tries", "(III)V"⟩, 69), (⟨"WreckFieldModel", "ways", "(IIZ)I"⟩, 69), (⟨"WreckFieldModel", "hasStood", "(III)Z"⟩, 69)]
theorem lw_r6 : ∀ q ∈ lw_privs_6, lw_okq q := List.forall_mem_cons.mpr ⟨lw_p80, List.forall_mem_cons.mpr ⟨lw_p81, List.forall_mem_cons.mpr ⟨lw_p82, List.forall_mem_cons.mpr ⟨lw_p83, fun _ h => absurd h List.not_mem_nil⟩⟩⟩⟩
def lw_privs : List (MethodName × Nat) := lw_privs_1 ++ (lw_privs_2 ++ (lw_privs_3 ++ (lw_privs_4 ++ (lw_privs_5 ++ (lw_privs_6)))))
def lw_tbl : List Cond := k2_sels lw_privs ++ tables_1
theorem lw_privs_ok : ∀ q ∈ lw_privs, lw_okq q := by
  show ∀ q ∈ lw_privs_1 ++ (lw_privs_2 ++ (lw_privs_3 ++ (lw_privs_4 ++ (lw_privs_5 ++ (lw_privs_6))))), lw_okq q
  exact List.forall_mem_append.mpr ⟨lw_r1, List.forall_mem_append.mpr ⟨lw_r2, List.forall_mem_append.mpr ⟨lw_r3, List.forall_mem_append.mpr ⟨lw_r4, List.forall_mem_append.mpr ⟨lw_r5, lw_r6⟩⟩⟩⟩⟩def RX0 : String := "WreckField$Dive"
def TX0 : u_T := fun k => match k with
  | 0 => ("WreckField$Dive", "a", "I", true)
  | 1 => ("WreckField$Dive", "b", "I", true)
  | 2 => ("WreckField$Dive", "start", "I", true)
  | 3 => ("WreckField$Dive", "depth", "I", true)
  | _ => ("WreckField$Dive", "minutes", "I", true)
def tyX0 : Nat → FieldType := fun k => match k with
  | 0 => .int
  | 1 => .int
  | 2 => .int
  | 3 => .int
  | _ => .int
abbrev wsX00 : List Cond := u_ws RX0 TX0 5
theorem nmX0 : ∀ a, a < 5 → ∀ b, b < 5 → a ≠ b → (TX0 a).2.1 ≠ (TX0 b).2.1 := by decide +kernel
theorem tyX0_ok : ∀ k, k < 5 → parseFieldDescriptor (TX0 k).2.2.1 = some (tyX0 k) := by decide +kernel
abbrev cX0_init : ByteArray := prog_2_method_1_code
def yX0_init : MethodName := ⟨RX0, "<init>", "(IIIII)V"⟩
abbrev cX0_end : ByteArray := prog_2_method_2_code
def yX0_end : MethodName := ⟨RX0, "end", "()I"⟩
abbrev cX0_has : ByteArray := prog_2_method_3_code
def yX0_has : MethodName := ⟨RX0, "has", "(I)Z"⟩
abbrev cX0_meets : ByteArray := prog_2_method_4_code
def yX0_meets : MethodName := ⟨RX0, "meets", "(II)Z"⟩
def RX1 : String := "WreckField$DiveLog"
def TX1 : u_T := fun k => match k with
  | 0 => ("WreckField$DiveLog", "divers", "I", false)
  | 1 => ("WreckField$DiveLog", "rows", "I", false)
  | 2 => ("WreckField$DiveLog", "diveCount", "I", false)
  | 3 => ("WreckField$DiveLog", "rowDepth", "[I", true)
  | 4 => ("WreckField$DiveLog", "rowMinutes", "[I", true)
  | 5 => ("WreckField$DiveLog", "rowRest", "[I", true)
  | _ => ("WreckField$DiveLog", "dives", "[LWreckField$Dive;", true)
def tyX1 : Nat → FieldType := fun k => match k with
  | 0 => .int
  | 1 => .int
  | 2 => .int
  | 3 => .array .int
  | 4 => .array .int
  | 5 => .array .int
  | _ => .array (.object "WreckField$Dive")
abbrev wsX10 : List Cond := u_ws RX1 TX1 7
theorem nmX1 : ∀ a, a < 7 → ∀ b, b < 7 → a ≠ b → (TX1 a).2.1 ≠ (TX1 b).2.1 := by decide +kernel
theorem tyX1_ok : ∀ k, k < 7 → parseFieldDescriptor (TX1 k).2.2.1 = some (tyX1 k) := by decide +kernel
abbrev cX1_init : ByteArray := prog_3_method_1_code
def yX1_init : MethodName := ⟨RX1, "<init>", "()V"⟩
abbrev cX1_addDiver : ByteArray := prog_3_method_2_code
def yX1_addDiver : MethodName := ⟨RX1, "addDiver", "()I"⟩
abbrev cX1_hasDiver : ByteArray := prog_3_method_3_code
def yX1_hasDiver : MethodName := ⟨RX1, "hasDiver", "(I)Z"⟩
abbrev cX1_putRow : ByteArray := prog_3_method_4_code
def yX1_putRow : MethodName := ⟨RX1, "putRow", "(III)I"⟩
abbrev cX1_firstRowFrom : ByteArray := prog_3_method_5_code
def yX1_firstRowFrom : MethodName := ⟨RX1, "firstRowFrom", "(I)I"⟩
abbrev cX1_openRow : ByteArray := prog_3_method_6_code
def yX1_openRow : MethodName := ⟨RX1, "openRow", "(I)V"⟩
abbrev cX1_restAfter : ByteArray := prog_3_method_7_code
def yX1_restAfter : MethodName := ⟨RX1, "restAfter", "(I)I"⟩
abbrev cX1_canBeAsked : ByteArray := prog_3_method_8_code
def yX1_canBeAsked : MethodName := ⟨RX1, "canBeAsked", "(IIIII)Z"⟩
abbrev cX1_refusal : ByteArray := prog_3_method_9_code
def yX1_refusal : MethodName := ⟨RX1, "refusal", "(IIIII)I"⟩
abbrev cX1_tableRefusal : ByteArray := prog_3_method_10_code
def yX1_tableRefusal : MethodName := ⟨RX1, "tableRefusal", "(II)I"⟩
abbrev cX1_timeRefusal : ByteArray := prog_3_method_11_code
def yX1_timeRefusal : MethodName := ⟨RX1, "timeRefusal", "(IIIII)I"⟩
abbrev cX1_isTooNear : ByteArray := prog_3_method_12_code
def yX1_isTooNear : MethodName := ⟨RX1, "isTooNear", "(LWreckField$Dive;III)Z"⟩
abbrev cX1_minutesOn : ByteArray := prog_3_method_13_code
def yX1_minutesOn : MethodName := ⟨RX1, "minutesOn", "(II)I"⟩
abbrev cX1_addDive : ByteArray := prog_3_method_14_code
def yX1_addDive : MethodName := ⟨RX1, "addDive", "(IIIII)I"⟩
abbrev cX1_dropLast : ByteArray := prog_3_method_15_code
def yX1_dropLast : MethodName := ⟨RX1, "dropLast", "()I"⟩
abbrev cX1_firstMoment : ByteArray := prog_3_method_16_code
def yX1_firstMoment : MethodName := ⟨RX1, "firstMoment", "(IIIII)I"⟩
abbrev cX1_pastHindrance : ByteArray := prog_3_method_17_code
def yX1_pastHindrance : MethodName := ⟨RX1, "pastHindrance", "(IIIII)I"⟩
def RX2 : String := "WreckField$Find"
def TX2 : u_T := fun k => match k with
  | 0 => ("WreckField$Find", "kind", "I", true)
  | 1 => ("WreckField$Find", "square", "I", true)
  | 2 => ("WreckField$Find", "layer", "I", true)
  | 3 => ("WreckField$Find", "size", "I", true)
  | 4 => ("WreckField$Find", "holeCount", "I", false)
  | 5 => ("WreckField$Find", "holes", "[I", true)
  | 6 => ("WreckField$Find", "isInField", "Z", false)
  | 7 => ("WreckField$Find", "tank", "I", false)
  | _ => ("WreckField$Find", "came", "I", false)
def tyX2 : Nat → FieldType := fun k => match k with
  | 0 => .int
  | 1 => .int
  | 2 => .int
  | 3 => .int
  | 4 => .int
  | 5 => .array .int
  | 6 => .boolean
  | 7 => .int
  | _ => .int
abbrev wsX20 : List Cond := u_ws RX2 TX2 9
theorem nmX2 : ∀ a, a < 9 → ∀ b, b < 9 → a ≠ b → (TX2 a).2.1 ≠ (TX2 b).2.1 := by decide +kernel
theorem tyX2_ok : ∀ k, k < 9 → parseFieldDescriptor (TX2 k).2.2.1 = some (tyX2 k) := by decide +kernel
abbrev cX2_init : ByteArray := prog_4_method_1_code
def yX2_init : MethodName := ⟨RX2, "<init>", "(IIII)V"⟩
abbrev cX2_x : ByteArray := prog_4_method_2_code
def yX2_x : MethodName := ⟨RX2, "x", "()I"⟩
abbrev cX2_y : ByteArray := prog_4_method_3_code
def yX2_y : MethodName := ⟨RX2, "y", "()I"⟩
abbrev cX2_isUnder : ByteArray := prog_4_method_4_code
def yX2_isUnder : MethodName := ⟨RX2, "isUnder", "(I)Z"⟩
abbrev cX2_addHole : ByteArray := prog_4_method_5_code
def yX2_addHole : MethodName := ⟨RX2, "addHole", "(I)I"⟩
abbrev cX2_item : ByteArray := prog_4_method_6_code
def yX2_item : MethodName := ⟨RX2, "item", "(I)I"⟩
abbrev cX2_readyDay : ByteArray := prog_4_method_7_code
def yX2_readyDay : MethodName := ⟨RX2, "readyDay", "()I"⟩
abbrev cX2_goInto : ByteArray := prog_4_method_8_code
def yX2_goInto : MethodName := ⟨RX2, "goInto", "(II)V"⟩
abbrev cX2_goOut : ByteArray := prog_4_method_9_code
def yX2_goOut : MethodName := ⟨RX2, "goOut", "()V"⟩
def RX3 : String := "WreckField$Planner"
def TX3 : u_T := fun k => match k with
  | 0 => ("WreckField$Planner", "tasks", "I", false)
  | 1 => ("WreckField$Planner", "gangs", "I", false)
  | 2 => ("WreckField$Planner", "gangMinutes", "[I", true)
  | 3 => ("WreckField$Planner", "setMinutes", "[I", true)
  | 4 => ("WreckField$Planner", "setPlaces", "[I", true)
  | 5 => ("WreckField$Planner", "setWorth", "[J", true)
  | 6 => ("WreckField$Planner", "bestMerit", "[J", true)
  | 7 => ("WreckField$Planner", "isPlanned", "Z", false)
  | 8 => ("WreckField$Planner", "greatest", "I", false)
  | _ => ("WreckField$Planner", "gangOfTask", "[I", true)
def tyX3 : Nat → FieldType := fun k => match k with
  | 0 => .int
  | 1 => .int
  | 2 => .array .int
  | 3 => .array .int
  | 4 => .array .int
  | 5 => .array .long
  | 6 => .array .long
  | 7 => .boolean
  | 8 => .int
  | _ => .array .int
abbrev wsX30 : List Cond := u_ws RX3 TX3 10
theorem nmX3 : ∀ a, a < 10 → ∀ b, b < 10 → a ≠ b → (TX3 a).2.1 ≠ (TX3 b).2.1 := by decide +kernel
theorem tyX3_ok : ∀ k, k < 10 → parseFieldDescriptor (TX3 k).2.2.1 = some (tyX3 k) := by decide +kernel
abbrev cX3_init : ByteArray := prog_5_method_1_code
def yX3_init : MethodName := ⟨RX3, "<init>", "()V"⟩
abbrev cX3_addTask : ByteArray := prog_5_method_2_code
def yX3_addTask : MethodName := ⟨RX3, "addTask", "(II)I"⟩
abbrev cX3_addGang : ByteArray := prog_5_method_3_code
def yX3_addGang : MethodName := ⟨RX3, "addGang", "(I)I"⟩
abbrev cX3_greatestWorth : ByteArray := prog_5_method_4_code
def yX3_greatestWorth : MethodName := ⟨RX3, "greatestWorth", "()I"⟩
abbrev cX3_gangOf : ByteArray := prog_5_method_5_code
def yX3_gangOf : MethodName := ⟨RX3, "gangOf", "(I)I"⟩
abbrev cX3_planIfNew : ByteArray := prog_5_method_6_code
def yX3_planIfNew : MethodName := ⟨RX3, "planIfNew", "()V"⟩
abbrev cX3_giveToGang : ByteArray := prog_5_method_7_code
def yX3_giveToGang : MethodName := ⟨RX3, "giveToGang", "(II)V"⟩
abbrev cX3_keepPlan : ByteArray := prog_5_method_8_code
def yX3_keepPlan : MethodName := ⟨RX3, "keepPlan", "(J)V"⟩
def RX4 : String := "WreckField$Rule"
def TX4 : u_T := fun k => match k with
  | 0 => ("WreckField$Rule", "bars", "I", false)
  | 1 => ("WreckField$Rule", "steps", "I", false)
  | 2 => ("WreckField$Rule", "barEnd", "[I", true)
  | 3 => ("WreckField$Rule", "step", "[I", true)
  | 4 => ("WreckField$Rule", "operand", "[I", true)
  | _ => ("WreckField$Rule", "stack", "[I", true)
def tyX4 : Nat → FieldType := fun k => match k with
  | 0 => .int
  | 1 => .int
  | 2 => .array .int
  | 3 => .array .int
  | 4 => .array .int
  | _ => .array .int
abbrev wsX40 : List Cond := u_ws RX4 TX4 6
theorem nmX4 : ∀ a, a < 6 → ∀ b, b < 6 → a ≠ b → (TX4 a).2.1 ≠ (TX4 b).2.1 := by decide +kernel
theorem tyX4_ok : ∀ k, k < 6 → parseFieldDescriptor (TX4 k).2.2.1 = some (tyX4 k) := by decide +kernel
abbrev cX4_init : ByteArray := prog_6_method_1_code
def yX4_init : MethodName := ⟨RX4, "<init>", "()V"⟩
abbrev cX4_clear : ByteArray := prog_6_method_2_code
def yX4_clear : MethodName := ⟨RX4, "clear", "()V"⟩
abbrev cX4_add : ByteArray := prog_6_method_3_code
def yX4_add : MethodName := ⟨RX4, "add", "(II)V"⟩
abbrev cX4_endBar : ByteArray := prog_6_method_4_code
def yX4_endBar : MethodName := ⟨RX4, "endBar", "()V"⟩
abbrev cX4_firstHolding : ByteArray := prog_6_method_5_code
def yX4_firstHolding : MethodName := ⟨RX4, "firstHolding", "(LWreckField$Find;I)I"⟩
abbrev cX4_valueOf : ByteArray := prog_6_method_6_code
def yX4_valueOf : MethodName := ⟨RX4, "valueOf", "(ILWreckField$Find;I)I"⟩
abbrev cX4_named : ByteArray := prog_6_method_7_code
def yX4_named : MethodName := ⟨RX4, "named", "(ILWreckField$Find;I)I"⟩
abbrev cX4_ofOne : ByteArray := prog_6_method_8_code
def yX4_ofOne : MethodName := ⟨RX4, "ofOne", "(II)I"⟩
abbrev cX4_ofTwo : ByteArray := prog_6_method_9_code
def yX4_ofTwo : MethodName := ⟨RX4, "ofTwo", "(III)I"⟩
abbrev cX4_truth : ByteArray := prog_6_method_10_code
def yX4_truth : MethodName := ⟨RX4, "truth", "(Z)I"⟩
def RX5 : String := "WreckField$RuleReader"
def TX5 : u_T := fun k => match k with
  | 0 => ("WreckField$RuleReader", "current", "LWreckField$Rule;", false)
  | 1 => ("WreckField$RuleReader", "draft", "LWreckField$Rule;", false)
  | 2 => ("WreckField$RuleReader", "size", "I", false)
  | 3 => ("WreckField$RuleReader", "text", "[I", true)
  | 4 => ("WreckField$RuleReader", "tokenStart", "I", false)
  | 5 => ("WreckField$RuleReader", "tokenEnd", "I", false)
  | 6 => ("WreckField$RuleReader", "token", "I", false)
  | _ => ("WreckField$RuleReader", "value", "I", false)
def tyX5 : Nat → FieldType := fun k => match k with
  | 0 => .object "WreckField$Rule"
  | 1 => .object "WreckField$Rule"
  | 2 => .int
  | 3 => .array .int
  | 4 => .int
  | 5 => .int
  | 6 => .int
  | _ => .int
abbrev wsX50 : List Cond := u_ws RX5 TX5 8
theorem nmX5 : ∀ a, a < 8 → ∀ b, b < 8 → a ≠ b → (TX5 a).2.1 ≠ (TX5 b).2.1 := by decide +kernel
theorem tyX5_ok : ∀ k, k < 8 → parseFieldDescriptor (TX5 k).2.2.1 = some (tyX5 k) := by decide +kernel
abbrev cX5_init : ByteArray := prog_7_method_1_code
def yX5_init : MethodName := ⟨RX5, "<init>", "()V"⟩
abbrev cX5_append : ByteArray := prog_7_method_2_code
def yX5_append : MethodName := ⟨RX5, "append", "(IJ)I"⟩
abbrev cX5_readAll : ByteArray := prog_7_method_3_code
def yX5_readAll : MethodName := ⟨RX5, "readAll", "()I"⟩
abbrev cX5_readBars : ByteArray := prog_7_method_4_code
def yX5_readBars : MethodName := ⟨RX5, "readBars", "()Z"⟩
abbrev cX5_readOr : ByteArray := prog_7_method_5_code
def yX5_readOr : MethodName := ⟨RX5, "readOr", "(I)Z"⟩
abbrev cX5_readAnd : ByteArray := prog_7_method_6_code
def yX5_readAnd : MethodName := ⟨RX5, "readAnd", "(I)Z"⟩
abbrev cX5_readNot : ByteArray := prog_7_method_7_code
def yX5_readNot : MethodName := ⟨RX5, "readNot", "(I)Z"⟩
abbrev cX5_readCompared : ByteArray := prog_7_method_8_code
def yX5_readCompared : MethodName := ⟨RX5, "readCompared", "(I)Z"⟩
abbrev cX5_readSum : ByteArray := prog_7_method_9_code
def yX5_readSum : MethodName := ⟨RX5, "readSum", "(I)Z"⟩
abbrev cX5_readTerm : ByteArray := prog_7_method_10_code
def yX5_readTerm : MethodName := ⟨RX5, "readTerm", "(I)Z"⟩
abbrev cX5_readOne : ByteArray := prog_7_method_11_code
def yX5_readOne : MethodName := ⟨RX5, "readOne", "(I)Z"⟩
abbrev cX5_readNegated : ByteArray := prog_7_method_12_code
def yX5_readNegated : MethodName := ⟨RX5, "readNegated", "(I)Z"⟩
abbrev cX5_readInner : ByteArray := prog_7_method_13_code
def yX5_readInner : MethodName := ⟨RX5, "readInner", "(I)Z"⟩
abbrev cX5_next : ByteArray := prog_7_method_14_code
def yX5_next : MethodName := ⟨RX5, "next", "()V"⟩
abbrev cX5_isLetter : ByteArray := prog_7_method_15_code
def yX5_isLetter : MethodName := ⟨RX5, "isLetter", "(I)Z"⟩
abbrev cX5_isDigit : ByteArray := prog_7_method_16_code
def yX5_isDigit : MethodName := ⟨RX5, "isDigit", "(I)Z"⟩
abbrev cX5_isSign : ByteArray := prog_7_method_17_code
def yX5_isSign : MethodName := ⟨RX5, "isSign", "(I)Z"⟩
abbrev cX5_takeNumber : ByteArray := prog_7_method_18_code
def yX5_takeNumber : MethodName := ⟨RX5, "takeNumber", "()V"⟩
abbrev cX5_takeWord : ByteArray := prog_7_method_19_code
def yX5_takeWord : MethodName := ⟨RX5, "takeWord", "()V"⟩
abbrev cX5_isAtHand : ByteArray := prog_7_method_20_code
def yX5_isAtHand : MethodName := ⟨RX5, "isAtHand", "(Ljava/lang/String;)Z"⟩
abbrev cX5_wordAt : ByteArray := prog_7_method_21_code
def yX5_wordAt : MethodName := ⟨RX5, "wordAt", "(I)Ljava/lang/String;"⟩
def RX6 : String := "WreckField$Sheets"
def TX6 : u_T := fun k => match k with
  | 0 => ("WreckField$Sheets", "sorts", "[I", true)
  | 1 => ("WreckField$Sheets", "sizes", "[I", true)
  | _ => ("WreckField$Sheets", "items", "[[I", true)
def tyX6 : Nat → FieldType := fun k => match k with
  | 0 => .array .int
  | 1 => .array .int
  | _ => .array (.array .int)
abbrev wsX60 : List Cond := u_ws RX6 TX6 3
theorem nmX6 : ∀ a, a < 3 → ∀ b, b < 3 → a ≠ b → (TX6 a).2.1 ≠ (TX6 b).2.1 := by decide +kernel
theorem tyX6_ok : ∀ k, k < 3 → parseFieldDescriptor (TX6 k).2.2.1 = some (tyX6 k) := by decide +kernel
abbrev cX6_init : ByteArray := prog_8_method_1_code
def yX6_init : MethodName := ⟨RX6, "<init>", "()V"⟩
abbrev cX6_has : ByteArray := prog_8_method_2_code
def yX6_has : MethodName := ⟨RX6, "has", "(I)Z"⟩
abbrev cX6_make : ByteArray := prog_8_method_3_code
def yX6_make : MethodName := ⟨RX6, "make", "(III)I"⟩
abbrev cX6_put : ByteArray := prog_8_method_4_code
def yX6_put : MethodName := ⟨RX6, "put", "(III)I"⟩
abbrev cX6_cutTo : ByteArray := prog_8_method_5_code
def yX6_cutTo : MethodName := ⟨RX6, "cutTo", "(II)I"⟩
abbrev cX6_wipe : ByteArray := prog_8_method_6_code
def yX6_wipe : MethodName := ⟨RX6, "wipe", "(II)I"⟩
abbrev cX6_floatsRefusal : ByteArray := prog_8_method_7_code
def yX6_floatsRefusal : MethodName := ⟨RX6, "floatsRefusal", "(I)I"⟩
abbrev cX6_holds : ByteArray := prog_8_method_8_code
def yX6_holds : MethodName := ⟨RX6, "holds", "(II)Z"⟩
abbrev cX6_isNumber : ByteArray := prog_8_method_9_code
def yX6_isNumber : MethodName := ⟨RX6, "isNumber", "(II)Z"⟩
abbrev cX6_whole : ByteArray := prog_8_method_10_code
def yX6_whole : MethodName := ⟨RX6, "whole", "(II)I"⟩
def RX7 : String := "WreckField$Survey"
def TX7 : u_T := fun k => match k with
  | 0 => ("WreckField$Survey", "markCount", "I", false)
  | 1 => ("WreckField$Survey", "tapeCount", "I", false)
  | 2 => ("WreckField$Survey", "bar", "I", false)
  | 3 => ("WreckField$Survey", "toldX", "[I", true)
  | 4 => ("WreckField$Survey", "toldY", "[I", true)
  | 5 => ("WreckField$Survey", "fixed", "[Z", true)
  | 6 => ("WreckField$Survey", "firstMark", "[I", true)
  | 7 => ("WreckField$Survey", "secondMark", "[I", true)
  | 8 => ("WreckField$Survey", "lengths", "[I", true)
  | 9 => ("WreckField$Survey", "rounds", "I", false)
  | 10 => ("WreckField$Survey", "roundX", "[I", true)
  | 11 => ("WreckField$Survey", "roundY", "[I", true)
  | 12 => ("WreckField$Survey", "worstSize", "[I", true)
  | 13 => ("WreckField$Survey", "outFrom", "[I", true)
  | 14 => ("WreckField$Survey", "near", "I", false)
  | 15 => ("WreckField$Survey", "nearX", "[I", true)
  | 16 => ("WreckField$Survey", "nearY", "[I", true)
  | _ => ("WreckField$Survey", "nearLength", "[I", true)
def tyX7 : Nat → FieldType := fun k => match k with
  | 0 => .int
  | 1 => .int
  | 2 => .int
  | 3 => .array .int
  | 4 => .array .int
  | 5 => .array .boolean
  | 6 => .array .int
  | 7 => .array .int
  | 8 => .array .int
  | 9 => .int
  | 10 => .array .int
  | 11 => .array .int
  | 12 => .array .int
  | 13 => .array .int
  | 14 => .int
  | 15 => .array .int
  | 16 => .array .int
  | _ => .array .int
abbrev wsX70 : List Cond := u_ws RX7 TX7 18
theorem nmX7 : ∀ a, a < 18 → ∀ b, b < 18 → a ≠ b → (TX7 a).2.1 ≠ (TX7 b).2.1 := by decide +kernel
theorem tyX7_ok : ∀ k, k < 18 → parseFieldDescriptor (TX7 k).2.2.1 = some (tyX7 k) := by decide +kernel
abbrev cX7_init : ByteArray := prog_9_method_1_code
def yX7_init : MethodName := ⟨RX7, "<init>", "()V"⟩
abbrev cX7_addMark : ByteArray := prog_9_method_2_code
def yX7_addMark : MethodName := ⟨RX7, "addMark", "(IIZ)I"⟩
abbrev cX7_addTape : ByteArray := prog_9_method_3_code
def yX7_addTape : MethodName := ⟨RX7, "addTape", "(III)I"⟩
abbrev cX7_hasMark : ByteArray := prog_9_method_4_code
def yX7_hasMark : MethodName := ⟨RX7, "hasMark", "(I)Z"⟩
abbrev cX7_forgetRounds : ByteArray := prog_9_method_5_code
def yX7_forgetRounds : MethodName := ⟨RX7, "forgetRounds", "()V"⟩
abbrev cX7_changeBar : ByteArray := prog_9_method_6_code
def yX7_changeBar : MethodName := ⟨RX7, "changeBar", "(I)I"⟩
abbrev cX7_markTold : ByteArray := prog_9_method_7_code
def yX7_markTold : MethodName := ⟨RX7, "markTold", "(II)J"⟩
abbrev cX7_tapeItem : ByteArray := prog_9_method_8_code
def yX7_tapeItem : MethodName := ⟨RX7, "tapeItem", "(II)J"⟩
abbrev cX7_squares : ByteArray := prog_9_method_9_code
def yX7_squares : MethodName := ⟨RX7, "squares", "()J"⟩
abbrev cX7_fittedRound : ByteArray := prog_9_method_10_code
def yX7_fittedRound : MethodName := ⟨RX7, "fittedRound", "()I"⟩
abbrev cX7_isOut : ByteArray := prog_9_method_11_code
def yX7_isOut : MethodName := ⟨RX7, "isOut", "(II)Z"⟩
abbrev cX7_miss : ByteArray := prog_9_method_12_code
def yX7_miss : MethodName := ⟨RX7, "miss", "(II)I"⟩
abbrev cX7_distance : ByteArray := prog_9_method_13_code
def yX7_distance : MethodName := ⟨RX7, "distance", "(III)I"⟩
abbrev cX7_fitIfNew : ByteArray := prog_9_method_14_code
def yX7_fitIfNew : MethodName := ⟨RX7, "fitIfNew", "(I)V"⟩
abbrev cX7_goToTold : ByteArray := prog_9_method_15_code
def yX7_goToTold : MethodName := ⟨RX7, "goToTold", "(I)V"⟩
abbrev cX7_gatherNear : ByteArray := prog_9_method_16_code
def yX7_gatherNear : MethodName := ⟨RX7, "gatherNear", "(II)V"⟩
abbrev cX7_moveMark : ByteArray := prog_9_method_17_code
def yX7_moveMark : MethodName := ⟨RX7, "moveMark", "(III)Z"⟩
abbrev cX7_nearSquares : ByteArray := prog_9_method_18_code
def yX7_nearSquares : MethodName := ⟨RX7, "nearSquares", "(IIJ)J"⟩
abbrev cX7_judge : ByteArray := prog_9_method_19_code
def yX7_judge : MethodName := ⟨RX7, "judge", "(I)V"⟩
def RX8 : String := "WreckField$Timbers"
def TX8 : u_T := fun k => match k with
  | 0 => ("WreckField$Timbers", "sums", "[I", true)
  | 1 => ("WreckField$Timbers", "greatest", "I", false)
  | _ => ("WreckField$Timbers", "shift", "I", false)
def tyX8 : Nat → FieldType := fun k => match k with
  | 0 => .array .int
  | 1 => .int
  | _ => .int
abbrev wsX80 : List Cond := u_ws RX8 TX8 3
theorem nmX8 : ∀ a, a < 3 → ∀ b, b < 3 → a ≠ b → (TX8 a).2.1 ≠ (TX8 b).2.1 := by decide +kernel
theorem tyX8_ok : ∀ k, k < 3 → parseFieldDescriptor (TX8 k).2.2.1 = some (tyX8 k) := by decide +kernel
abbrev cX8_init : ByteArray := prog_10_method_1_code
def yX8_init : MethodName := ⟨RX8, "<init>", "()V"⟩
abbrev cX8_match : ByteArray := prog_10_method_2_code
def yX8_match : MethodName := ⟨RX8, "match", "(LWreckField$Find;LWreckField$Find;)V"⟩
abbrev cX8_takeIfGreater : ByteArray := prog_10_method_3_code
def yX8_takeIfGreater : MethodName := ⟨RX8, "takeIfGreater", "(I)V"⟩
abbrev cX8_bestOf : ByteArray := prog_10_method_4_code
def yX8_bestOf : MethodName := ⟨RX8, "bestOf", "(LWreckField$Yard;I)I"⟩
def RX9 : String := "WreckField$Wreck"
def TX9 : u_T := fun k => match k with
  | 0 => ("WreckField$Wreck", "open", "I", false)
  | _ => ("WreckField$Wreck", "roll", "I", false)
def tyX9 : Nat → FieldType := fun k => match k with
  | 0 => .int
  | _ => .int
abbrev wsX90 : List Cond := u_ws RX9 TX9 2
theorem nmX9 : ∀ a, a < 2 → ∀ b, b < 2 → a ≠ b → (TX9 a).2.1 ≠ (TX9 b).2.1 := by decide +kernel
theorem tyX9_ok : ∀ k, k < 2 → parseFieldDescriptor (TX9 k).2.2.1 = some (tyX9 k) := by decide +kernel
abbrev cX9_init : ByteArray := prog_11_method_1_code
def yX9_init : MethodName := ⟨RX9, "<init>", "()V"⟩
abbrev cX9_openHatches : ByteArray := prog_11_method_2_code
def yX9_openHatches : MethodName := ⟨RX9, "openHatches", "(I)I"⟩
abbrev cX9_changeRoll : ByteArray := prog_11_method_3_code
def yX9_changeRoll : MethodName := ⟨RX9, "changeRoll", "(I)I"⟩
abbrev cX9_ways : ByteArray := prog_11_method_4_code
def yX9_ways : MethodName := ⟨RX9, "ways", "(LWreckField$Find;)I"⟩
abbrev cX9_wayAt : ByteArray := prog_11_method_5_code
def yX9_wayAt : MethodName := ⟨RX9, "wayAt", "(LWreckField$Find;I)I"⟩
abbrev cX9_placeOn : ByteArray := prog_11_method_6_code
def yX9_placeOn : MethodName := ⟨RX9, "placeOn", "(ILWreckField$Find;)I"⟩
abbrev cX9_decksDown : ByteArray := prog_11_method_7_code
def yX9_decksDown : MethodName := ⟨RX9, "decksDown", "(I)I"⟩
def RX10 : String := "WreckField$Yard"
def TX10 : u_T := fun k => match k with
  | 0 => ("WreckField$Yard", "findCount", "I", false)
  | 1 => ("WreckField$Yard", "tankCount", "I", false)
  | 2 => ("WreckField$Yard", "finds", "[LWreckField$Find;", true)
  | 3 => ("WreckField$Yard", "tankKind", "[I", true)
  | _ => ("WreckField$Yard", "tankRoom", "[I", true)
def tyX10 : Nat → FieldType := fun k => match k with
  | 0 => .int
  | 1 => .int
  | 2 => .array (.object "WreckField$Find")
  | 3 => .array .int
  | _ => .array .int
abbrev wsX100 : List Cond := u_ws RX10 TX10 5
theorem nmX10 : ∀ a, a < 5 → ∀ b, b < 5 → a ≠ b → (TX10 a).2.1 ≠ (TX10 b).2.1 := by decide +kernel
theorem tyX10_ok : ∀ k, k < 5 → parseFieldDescriptor (TX10 k).2.2.1 = some (tyX10 k) := by decide +kernel
abbrev cX10_init : ByteArray := prog_12_method_1_code
def yX10_init : MethodName := ⟨RX10, "<init>", "()V"⟩
abbrev cX10_addFind : ByteArray := prog_12_method_2_code
def yX10_addFind : MethodName := ⟨RX10, "addFind", "(IIII)I"⟩
abbrev cX10_findAt : ByteArray := prog_12_method_3_code
def yX10_findAt : MethodName := ⟨RX10, "findAt", "(I)LWreckField$Find;"⟩
abbrev cX10_timberAt : ByteArray := prog_12_method_4_code
def yX10_timberAt : MethodName := ⟨RX10, "timberAt", "(I)LWreckField$Find;"⟩
abbrev cX10_inField : ByteArray := prog_12_method_5_code
def yX10_inField : MethodName := ⟨RX10, "inField", "()I"⟩
abbrev cX10_addTank : ByteArray := prog_12_method_6_code
def yX10_addTank : MethodName := ⟨RX10, "addTank", "(II)I"⟩
abbrev cX10_hasTank : ByteArray := prog_12_method_7_code
def yX10_hasTank : MethodName := ⟨RX10, "hasTank", "(I)Z"⟩
abbrev cX10_tankItem : ByteArray := prog_12_method_8_code
def yX10_tankItem : MethodName := ⟨RX10, "tankItem", "(II)I"⟩
abbrev cX10_sizesIn : ByteArray := prog_12_method_9_code
def yX10_sizesIn : MethodName := ⟨RX10, "sizesIn", "(I)I"⟩
abbrev cX10_findsIn : ByteArray := prog_12_method_10_code
def yX10_findsIn : MethodName := ⟨RX10, "findsIn", "(I)I"⟩
abbrev cX10_refusal : ByteArray := prog_12_method_11_code
def yX10_refusal : MethodName := ⟨RX10, "refusal", "(LWreckField$Find;I)I"⟩
def RX11 : String := "WreckField"
def TX11 : u_T := fun k => match k with
  | 0 => ("WreckField", "survey", "LWreckField$Survey;", true)
  | 1 => ("WreckField", "yard", "LWreckField$Yard;", true)
  | 2 => ("WreckField", "log", "LWreckField$DiveLog;", true)
  | 3 => ("WreckField", "reader", "LWreckField$RuleReader;", true)
  | 4 => ("WreckField", "timbers", "LWreckField$Timbers;", true)
  | 5 => ("WreckField", "planner", "LWreckField$Planner;", true)
  | 6 => ("WreckField", "wreck", "LWreckField$Wreck;", true)
  | _ => ("WreckField", "sheets", "LWreckField$Sheets;", true)
def tyX11 : Nat → FieldType := fun k => match k with
  | 0 => .object "WreckField$Survey"
  | 1 => .object "WreckField$Yard"
  | 2 => .object "WreckField$DiveLog"
  | 3 => .object "WreckField$RuleReader"
  | 4 => .object "WreckField$Timbers"
  | 5 => .object "WreckField$Planner"
  | 6 => .object "WreckField$Wreck"
  | _ => .object "WreckField$Sheets"
abbrev wsX110 : List Cond := u_ws RX11 TX11 8
theorem nmX11 : ∀ a, a < 8 → ∀ b, b < 8 → a ≠ b → (TX11 a).2.1 ≠ (TX11 b).2.1 := by decide +kernel
theorem tyX11_ok : ∀ k, k < 8 → parseFieldDescriptor (TX11 k).2.2.1 = some (tyX11 k) := by decide +kernel
abbrev cX11_init : ByteArray := prog_1_method_1_code
def yX11_init : MethodName := ⟨RX11, "<init>", "()V"⟩
abbrev cX11_mark : ByteArray := prog_1_method_2_code
def yX11_mark : MethodName := ⟨RX11, "mark", "(IIZ)I"⟩
abbrev cX11_tape : ByteArray := prog_1_method_3_code
def yX11_tape : MethodName := ⟨RX11, "tape", "(III)I"⟩
abbrev cX11_tapes : ByteArray := prog_1_method_4_code
def yX11_tapes : MethodName := ⟨RX11, "tapes", "(III)I"⟩
abbrev cX11_tapeFrom : ByteArray := prog_1_method_5_code
def yX11_tapeFrom : MethodName := ⟨RX11, "tapeFrom", "(II)I"⟩
abbrev cX11_bar : ByteArray := prog_1_method_6_code
def yX11_bar : MethodName := ⟨RX11, "bar", "(I)I"⟩
abbrev cX11_fit : ByteArray := prog_1_method_7_code
def yX11_fit : MethodName := ⟨RX11, "fit", "(II)J"⟩
abbrev cX11_tapeTold : ByteArray := prog_1_method_8_code
def yX11_tapeTold : MethodName := ⟨RX11, "tapeTold", "(II)J"⟩
abbrev cX11_sum : ByteArray := prog_1_method_9_code
def yX11_sum : MethodName := ⟨RX11, "sum", "()J"⟩
abbrev cX11_find : ByteArray := prog_1_method_10_code
def yX11_find : MethodName := ⟨RX11, "find", "(IIII)I"⟩
abbrev cX11_hole : ByteArray := prog_1_method_11_code
def yX11_hole : MethodName := ⟨RX11, "hole", "(II)I"⟩
abbrev cX11_findTold : ByteArray := prog_1_method_12_code
def yX11_findTold : MethodName := ⟨RX11, "findTold", "(II)I"⟩
abbrev cX11_tank : ByteArray := prog_1_method_13_code
def yX11_tank : MethodName := ⟨RX11, "tank", "(II)I"⟩
abbrev cX11_tankTold : ByteArray := prog_1_method_14_code
def yX11_tankTold : MethodName := ⟨RX11, "tankTold", "(II)I"⟩
abbrev cX11_lift : ByteArray := prog_1_method_15_code
def yX11_lift : MethodName := ⟨RX11, "lift", "(III)I"⟩
abbrev cX11_why : ByteArray := prog_1_method_16_code
def yX11_why : MethodName := ⟨RX11, "why", "(III)I"⟩
abbrev cX11_liftRefusal : ByteArray := prog_1_method_17_code
def yX11_liftRefusal : MethodName := ⟨RX11, "liftRefusal", "(III)I"⟩
abbrev cX11_isDay : ByteArray := prog_1_method_18_code
def yX11_isDay : MethodName := ⟨RX11, "isDay", "(I)Z"⟩
abbrev cX11_take : ByteArray := prog_1_method_19_code
def yX11_take : MethodName := ⟨RX11, "take", "(II)I"⟩
abbrev cX11_diver : ByteArray := prog_1_method_20_code
def yX11_diver : MethodName := ⟨RX11, "diver", "()I"⟩
abbrev cX11_row : ByteArray := prog_1_method_21_code
def yX11_row : MethodName := ⟨RX11, "row", "(III)I"⟩
abbrev cX11_dive : ByteArray := prog_1_method_22_code
def yX11_dive : MethodName := ⟨RX11, "dive", "(IIIII)I"⟩
abbrev cX11_cancel : ByteArray := prog_1_method_23_code
def yX11_cancel : MethodName := ⟨RX11, "cancel", "()I"⟩
abbrev cX11_under : ByteArray := prog_1_method_24_code
def yX11_under : MethodName := ⟨RX11, "under", "(II)I"⟩
abbrev cX11_soonest : ByteArray := prog_1_method_25_code
def yX11_soonest : MethodName := ⟨RX11, "soonest", "(IIIII)I"⟩
abbrev cX11_feed : ByteArray := prog_1_method_26_code
def yX11_feed : MethodName := ⟨RX11, "feed", "(IJ)I"⟩
abbrev cX11_rule : ByteArray := prog_1_method_27_code
def yX11_rule : MethodName := ⟨RX11, "rule", "()I"⟩
abbrev cX11_worth : ByteArray := prog_1_method_28_code
def yX11_worth : MethodName := ⟨RX11, "worth", "(III)J"⟩
abbrev cX11_bond : ByteArray := prog_1_method_29_code
def yX11_bond : MethodName := ⟨RX11, "bond", "(III)I"⟩
abbrev cX11_best : ByteArray := prog_1_method_30_code
def yX11_best : MethodName := ⟨RX11, "best", "(I)I"⟩
abbrev cX11_joined : ByteArray := prog_1_method_31_code
def yX11_joined : MethodName := ⟨RX11, "joined", "(I)I"⟩
abbrev cX11_task : ByteArray := prog_1_method_32_code
def yX11_task : MethodName := ⟨RX11, "task", "(II)I"⟩
abbrev cX11_gang : ByteArray := prog_1_method_33_code
def yX11_gang : MethodName := ⟨RX11, "gang", "(I)I"⟩
abbrev cX11_plan : ByteArray := prog_1_method_34_code
def yX11_plan : MethodName := ⟨RX11, "plan", "()I"⟩
abbrev cX11_planned : ByteArray := prog_1_method_35_code
def yX11_planned : MethodName := ⟨RX11, "planned", "(I)I"⟩
abbrev cX11_hatches : ByteArray := prog_1_method_36_code
def yX11_hatches : MethodName := ⟨RX11, "hatches", "(I)I"⟩
abbrev cX11_roll : ByteArray := prog_1_method_37_code
def yX11_roll : MethodName := ⟨RX11, "roll", "(I)I"⟩
abbrev cX11_stood : ByteArray := prog_1_method_38_code
def yX11_stood : MethodName := ⟨RX11, "stood", "(I)I"⟩
abbrev cX11_stoodAt : ByteArray := prog_1_method_39_code
def yX11_stoodAt : MethodName := ⟨RX11, "stoodAt", "(II)I"⟩
abbrev cX11_count : ByteArray := prog_1_method_40_code
def yX11_count : MethodName := ⟨RX11, "count", "(I)I"⟩
abbrev cX11_sheet : ByteArray := prog_1_method_41_code
def yX11_sheet : MethodName := ⟨RX11, "sheet", "(III)I"⟩
abbrev cX11_cell : ByteArray := prog_1_method_42_code
def yX11_cell : MethodName := ⟨RX11, "cell", "(III)I"⟩
abbrev cX11_none : ByteArray := prog_1_method_43_code
def yX11_none : MethodName := ⟨RX11, "none", "(II)I"⟩
abbrev cX11_taken : ByteArray := prog_1_method_44_code
def yX11_taken : MethodName := ⟨RX11, "taken", "(II)I"⟩
def RX12 : String := "WreckFieldModel"
def TX12 : u_T := fun k => match k with
  | 0 => ("WreckFieldModel", "marks", "I", false)
  | 1 => ("WreckFieldModel", "mx", "[I", true)
  | 2 => ("WreckFieldModel", "my", "[I", true)
  | 3 => ("WreckFieldModel", "fx", "[I", true)
  | 4 => ("WreckFieldModel", "fy", "[I", true)
  | 5 => ("WreckFieldModel", "isFixed", "[Z", true)
  | 6 => ("WreckFieldModel", "tapes", "I", false)
  | 7 => ("WreckFieldModel", "ta", "[I", true)
  | 8 => ("WreckFieldModel", "tb", "[I", true)
  | 9 => ("WreckFieldModel", "length", "[I", true)
  | 10 => ("WreckFieldModel", "isOut", "[Z", true)
  | 11 => ("WreckFieldModel", "isFit", "Z", false)
  | 12 => ("WreckFieldModel", "bar", "I", false)
  | 13 => ("WreckFieldModel", "finds", "I", false)
  | 14 => ("WreckFieldModel", "kind", "[I", true)
  | 15 => ("WreckFieldModel", "square", "[I", true)
  | 16 => ("WreckFieldModel", "layer", "[I", true)
  | 17 => ("WreckFieldModel", "size", "[I", true)
  | 18 => ("WreckFieldModel", "holes", "[I", true)
  | 19 => ("WreckFieldModel", "hole", "[I", true)
  | 20 => ("WreckFieldModel", "tankOf", "[I", true)
  | 21 => ("WreckFieldModel", "cameOn", "[I", true)
  | 22 => ("WreckFieldModel", "tanks", "I", false)
  | 23 => ("WreckFieldModel", "tankKind", "[I", true)
  | 24 => ("WreckFieldModel", "room", "[I", true)
  | 25 => ("WreckFieldModel", "divers", "I", false)
  | 26 => ("WreckFieldModel", "rows", "I", false)
  | 27 => ("WreckFieldModel", "rowDepth", "[I", true)
  | 28 => ("WreckFieldModel", "rowMost", "[I", true)
  | 29 => ("WreckFieldModel", "rowRest", "[I", true)
  | 30 => ("WreckFieldModel", "dives", "I", false)
  | 31 => ("WreckFieldModel", "dA", "[I", true)
  | 32 => ("WreckFieldModel", "dB", "[I", true)
  | 33 => ("WreckFieldModel", "dAt", "[I", true)
  | 34 => ("WreckFieldModel", "dDepth", "[I", true)
  | 35 => ("WreckFieldModel", "dLong", "[I", true)
  | 36 => ("WreckFieldModel", "tape", "[I", true)
  | 37 => ("WreckFieldModel", "taped", "I", false)
  | 38 => ("WreckFieldModel", "bars", "I", false)
  | 39 => ("WreckFieldModel", "op", "[I", true)
  | 40 => ("WreckFieldModel", "value", "[I", true)
  | 41 => ("WreckFieldModel", "part", "[I", true)
  | 42 => ("WreckFieldModel", "tasks", "I", false)
  | 43 => ("WreckFieldModel", "taskLong", "[I", true)
  | 44 => ("WreckFieldModel", "worth", "[I", true)
  | 45 => ("WreckFieldModel", "gangs", "I", false)
  | 46 => ("WreckFieldModel", "gangLong", "[I", true)
  | 47 => ("WreckFieldModel", "isPlanned", "Z", false)
  | 48 => ("WreckFieldModel", "hatches", "I", false)
  | 49 => ("WreckFieldModel", "roll", "I", false)
  | 50 => ("WreckFieldModel", "sort", "[I", true)
  | 51 => ("WreckFieldModel", "many", "[I", true)
  | 52 => ("WreckFieldModel", "cells", "[I", true)
  | 53 => ("WreckFieldModel", "isNone", "[Z", true)
  | 54 => ("WreckFieldModel", "words", "[I", true)
  | 55 => ("WreckFieldModel", "textSize", "I", false)
  | 56 => ("WreckFieldModel", "reading", "I", false)
  | 57 => ("WreckFieldModel", "at", "I", false)
  | 58 => ("WreckFieldModel", "begin", "I", false)
  | 59 => ("WreckFieldModel", "token", "I", false)
  | 60 => ("WreckFieldModel", "told", "I", false)
  | 61 => ("WreckFieldModel", "wrong", "I", false)
  | 62 => ("WreckFieldModel", "open", "I", false)
  | 63 => ("WreckFieldModel", "codes", "I", false)
  | 64 => ("WreckFieldModel", "pile", "[I", true)
  | 65 => ("WreckFieldModel", "bestWorth", "I", false)
  | 66 => ("WreckFieldModel", "given", "[I", true)
  | 67 => ("WreckFieldModel", "bestGiven", "[I", true)
  | _ => ("WreckFieldModel", "left", "[I", true)
def tyX12 : Nat → FieldType := fun k => match k with
  | 0 => .int
  | 1 => .array .int
  | 2 => .array .int
  | 3 => .array .int
  | 4 => .array .int
  | 5 => .array .boolean
  | 6 => .int
  | 7 => .array .int
  | 8 => .array .int
  | 9 => .array .int
  | 10 => .array .boolean
  | 11 => .boolean
  | 12 => .int
  | 13 => .int
  | 14 => .array .int
  | 15 => .array .int
  | 16 => .array .int
  | 17 => .array .int
  | 18 => .array .int
  | 19 => .array .int
  | 20 => .array .int
  | 21 => .array .int
  | 22 => .int
  | 23 => .array .int
  | 24 => .array .int
  | 25 => .int
  | 26 => .int
  | 27 => .array .int
  | 28 => .array .int
  | 29 => .array .int
  | 30 => .int
  | 31 => .array .int
  | 32 => .array .int
  | 33 => .array .int
  | 34 => .array .int
  | 35 => .array .int
  | 36 => .array .int
  | 37 => .int
  | 38 => .int
  | 39 => .array .int
  | 40 => .array .int
  | 41 => .array .int
  | 42 => .int
  | 43 => .array .int
  | 44 => .array .int
  | 45 => .int
  | 46 => .array .int
  | 47 => .boolean
  | 48 => .int
  | 49 => .int
  | 50 => .array .int
  | 51 => .array .int
  | 52 => .array .int
  | 53 => .array .boolean
  | 54 => .array .int
  | 55 => .int
  | 56 => .int
  | 57 => .int
  | 58 => .int
  | 59 => .int
  | 60 => .int
  | 61 => .int
  | 62 => .int
  | 63 => .int
  | 64 => .array .int
  | 65 => .int
  | 66 => .array .int
  | 67 => .array .int
  | _ => .array .int
abbrev wsX120 : List Cond := u_ws RX12 TX12 69
theorem nmX12 : ∀ a, a < 69 → ∀ b, b < 69 → a ≠ b → (TX12 a).2.1 ≠ (TX12 b).2.1 := by decide +kernel
theorem tyX12_ok : ∀ k, k < 69 → parseFieldDescriptor (TX12 k).2.2.1 = some (tyX12 k) := by decide +kernel
abbrev cX12_init : ByteArray := prog_14_method_1_code
def yX12_init : MethodName := ⟨RX12, "<init>", "()V"⟩
abbrev cX12_in : ByteArray := prog_14_method_2_code
def yX12_in : MethodName := ⟨RX12, "in", "(III)Z"⟩
abbrev cX12_isMark : ByteArray := prog_14_method_3_code
def yX12_isMark : MethodName := ⟨RX12, "isMark", "(I)Z"⟩
abbrev cX12_isFind : ByteArray := prog_14_method_4_code
def yX12_isFind : MethodName := ⟨RX12, "isFind", "(I)Z"⟩
abbrev cX12_isDay : ByteArray := prog_14_method_5_code
def yX12_isDay : MethodName := ⟨RX12, "isDay", "(I)Z"⟩
abbrev cX12_mark : ByteArray := prog_14_method_6_code
def yX12_mark : MethodName := ⟨RX12, "mark", "(IIZ)I"⟩
abbrev cX12_tape : ByteArray := prog_14_method_7_code
def yX12_tape : MethodName := ⟨RX12, "tape", "(III)I"⟩
abbrev cX12_tapes : ByteArray := prog_14_method_8_code
def yX12_tapes : MethodName := ⟨RX12, "tapes", "(III)I"⟩
abbrev cX12_bar : ByteArray := prog_14_method_9_code
def yX12_bar : MethodName := ⟨RX12, "bar", "(I)I"⟩
abbrev cX12_root : ByteArray := prog_14_method_10_code
def yX12_root : MethodName := ⟨RX12, "root", "(I)I"⟩
abbrev cX12_miss : ByteArray := prog_14_method_11_code
def yX12_miss : MethodName := ⟨RX12, "miss", "(I)I"⟩
abbrev cX12_misses : ByteArray := prog_14_method_12_code
def yX12_misses : MethodName := ⟨RX12, "misses", "(I)J"⟩
abbrev cX12_goes : ByteArray := prog_14_method_13_code
def yX12_goes : MethodName := ⟨RX12, "goes", "(II)V"⟩
abbrev cX12_fits : ByteArray := prog_14_method_14_code
def yX12_fits : MethodName := ⟨RX12, "fits", "()V"⟩
abbrev cX12_knows : ByteArray := prog_14_method_15_code
def yX12_knows : MethodName := ⟨RX12, "knows", "()V"⟩
abbrev cX12_fit : ByteArray := prog_14_method_16_code
def yX12_fit : MethodName := ⟨RX12, "fit", "(II)J"⟩
abbrev cX12_tapeTold : ByteArray := prog_14_method_17_code
def yX12_tapeTold : MethodName := ⟨RX12, "tapeTold", "(II)J"⟩
abbrev cX12_sum : ByteArray := prog_14_method_18_code
def yX12_sum : MethodName := ⟨RX12, "sum", "()J"⟩
abbrev cX12_find : ByteArray := prog_14_method_19_code
def yX12_find : MethodName := ⟨RX12, "find", "(IIII)I"⟩
abbrev cX12_isTimber : ByteArray := prog_14_method_20_code
def yX12_isTimber : MethodName := ⟨RX12, "isTimber", "(I)Z"⟩
abbrev cX12_hole : ByteArray := prog_14_method_21_code
def yX12_hole : MethodName := ⟨RX12, "hole", "(II)I"⟩
abbrev cX12_weeks : ByteArray := prog_14_method_22_code
def yX12_weeks : MethodName := ⟨RX12, "weeks", "(I)I"⟩
abbrev cX12_findTold : ByteArray := prog_14_method_23_code
def yX12_findTold : MethodName := ⟨RX12, "findTold", "(II)I"⟩
abbrev cX12_tank : ByteArray := prog_14_method_24_code
def yX12_tank : MethodName := ⟨RX12, "tank", "(II)I"⟩
abbrev cX12_inTank : ByteArray := prog_14_method_25_code
def yX12_inTank : MethodName := ⟨RX12, "inTank", "(IZ)I"⟩
abbrev cX12_tankTold : ByteArray := prog_14_method_26_code
def yX12_tankTold : MethodName := ⟨RX12, "tankTold", "(II)I"⟩
abbrev cX12_isUnder : ByteArray := prog_14_method_27_code
def yX12_isUnder : MethodName := ⟨RX12, "isUnder", "(II)Z"⟩
abbrev cX12_hinders : ByteArray := prog_14_method_28_code
def yX12_hinders : MethodName := ⟨RX12, "hinders", "(III)I"⟩
abbrev cX12_why : ByteArray := prog_14_method_29_code
def yX12_why : MethodName := ⟨RX12, "why", "(III)I"⟩
abbrev cX12_lift : ByteArray := prog_14_method_30_code
def yX12_lift : MethodName := ⟨RX12, "lift", "(III)I"⟩
abbrev cX12_take : ByteArray := prog_14_method_31_code
def yX12_take : MethodName := ⟨RX12, "take", "(II)I"⟩
abbrev cX12_diver : ByteArray := prog_14_method_32_code
def yX12_diver : MethodName := ⟨RX12, "diver", "()I"⟩
abbrev cX12_row : ByteArray := prog_14_method_33_code
def yX12_row : MethodName := ⟨RX12, "row", "(III)I"⟩
abbrev cX12_rowOf : ByteArray := prog_14_method_34_code
def yX12_rowOf : MethodName := ⟨RX12, "rowOf", "(I)I"⟩
abbrev cX12_restOf : ByteArray := prog_14_method_35_code
def yX12_restOf : MethodName := ⟨RX12, "restOf", "(I)I"⟩
abbrev cX12_isOf : ByteArray := prog_14_method_36_code
def yX12_isOf : MethodName := ⟨RX12, "isOf", "(III)Z"⟩
abbrev cX12_minutesOn : ByteArray := prog_14_method_37_code
def yX12_minutesOn : MethodName := ⟨RX12, "minutesOn", "(II)I"⟩
abbrev cX12_refused : ByteArray := prog_14_method_38_code
def yX12_refused : MethodName := ⟨RX12, "refused", "(IIIII)I"⟩
abbrev cX12_clashes : ByteArray := prog_14_method_39_code
def yX12_clashes : MethodName := ⟨RX12, "clashes", "(IIIII)I"⟩
abbrev cX12_isDive : ByteArray := prog_14_method_40_code
def yX12_isDive : MethodName := ⟨RX12, "isDive", "(IIIII)Z"⟩
abbrev cX12_dive : ByteArray := prog_14_method_41_code
def yX12_dive : MethodName := ⟨RX12, "dive", "(IIIII)I"⟩
abbrev cX12_cancel : ByteArray := prog_14_method_42_code
def yX12_cancel : MethodName := ⟨RX12, "cancel", "()I"⟩
abbrev cX12_under : ByteArray := prog_14_method_43_code
def yX12_under : MethodName := ⟨RX12, "under", "(II)I"⟩
abbrev cX12_soonest : ByteArray := prog_14_method_44_code
def yX12_soonest : MethodName := ⟨RX12, "soonest", "(IIIII)I"⟩
abbrev cX12_byteAt : ByteArray := prog_14_method_45_code
def yX12_byteAt : MethodName := ⟨RX12, "byteAt", "(I)I"⟩
abbrev cX12_isLetter : ByteArray := prog_14_method_46_code
def yX12_isLetter : MethodName := ⟨RX12, "isLetter", "(I)Z"⟩
abbrev cX12_isDigit : ByteArray := prog_14_method_47_code
def yX12_isDigit : MethodName := ⟨RX12, "isDigit", "(I)Z"⟩
abbrev cX12_next : ByteArray := prog_14_method_48_code
def yX12_next : MethodName := ⟨RX12, "next", "()V"⟩
abbrev cX12_number : ByteArray := prog_14_method_49_code
def yX12_number : MethodName := ⟨RX12, "number", "()V"⟩
abbrev cX12_word : ByteArray := prog_14_method_50_code
def yX12_word : MethodName := ⟨RX12, "word", "()V"⟩
abbrev cX12_isWrong : ByteArray := prog_14_method_51_code
def yX12_isWrong : MethodName := ⟨RX12, "isWrong", "()Z"⟩
abbrev cX12_cannot : ByteArray := prog_14_method_52_code
def yX12_cannot : MethodName := ⟨RX12, "cannot", "()V"⟩
abbrev cX12_need : ByteArray := prog_14_method_53_code
def yX12_need : MethodName := ⟨RX12, "need", "(I)V"⟩
abbrev cX12_opens : ByteArray := prog_14_method_54_code
def yX12_opens : MethodName := ⟨RX12, "opens", "()V"⟩
abbrev cX12_emit : ByteArray := prog_14_method_55_code
def yX12_emit : MethodName := ⟨RX12, "emit", "(II)V"⟩
abbrev cX12_reads : ByteArray := prog_14_method_56_code
def yX12_reads : MethodName := ⟨RX12, "reads", "()I"⟩
abbrev cX12_either : ByteArray := prog_14_method_57_code
def yX12_either : MethodName := ⟨RX12, "either", "()V"⟩
abbrev cX12_both : ByteArray := prog_14_method_58_code
def yX12_both : MethodName := ⟨RX12, "both", "()V"⟩
abbrev cX12_not : ByteArray := prog_14_method_59_code
def yX12_not : MethodName := ⟨RX12, "not", "()V"⟩
abbrev cX12_added : ByteArray := prog_14_method_60_code
def yX12_added : MethodName := ⟨RX12, "added", "()V"⟩
abbrev cX12_term : ByteArray := prog_14_method_61_code
def yX12_term : MethodName := ⟨RX12, "term", "()V"⟩
abbrev cX12_one : ByteArray := prog_14_method_62_code
def yX12_one : MethodName := ⟨RX12, "one", "()V"⟩
abbrev cX12_feed : ByteArray := prog_14_method_63_code
def yX12_feed : MethodName := ⟨RX12, "feed", "(IJ)I"⟩
abbrev cX12_rule : ByteArray := prog_14_method_64_code
def yX12_rule : MethodName := ⟨RX12, "rule", "()I"⟩
abbrev cX12_two : ByteArray := prog_14_method_65_code
def yX12_two : MethodName := ⟨RX12, "two", "(III)I"⟩
abbrev cX12_named : ByteArray := prog_14_method_66_code
def yX12_named : MethodName := ⟨RX12, "named", "(III)I"⟩
abbrev cX12_worked : ByteArray := prog_14_method_67_code
def yX12_worked : MethodName := ⟨RX12, "worked", "(III)I"⟩
abbrev cX12_worth : ByteArray := prog_14_method_68_code
def yX12_worth : MethodName := ⟨RX12, "worth", "(III)J"⟩
abbrev cX12_shared : ByteArray := prog_14_method_69_code
def yX12_shared : MethodName := ⟨RX12, "shared", "(III)I"⟩
abbrev cX12_bonded : ByteArray := prog_14_method_70_code
def yX12_bonded : MethodName := ⟨RX12, "bonded", "(III)I"⟩
abbrev cX12_bond : ByteArray := prog_14_method_71_code
def yX12_bond : MethodName := ⟨RX12, "bond", "(III)I"⟩
abbrev cX12_bestOf : ByteArray := prog_14_method_72_code
def yX12_bestOf : MethodName := ⟨RX12, "bestOf", "(I)I"⟩
abbrev cX12_best : ByteArray := prog_14_method_73_code
def yX12_best : MethodName := ⟨RX12, "best", "(I)I"⟩
abbrev cX12_joined : ByteArray := prog_14_method_74_code
def yX12_joined : MethodName := ⟨RX12, "joined", "(I)I"⟩
abbrev cX12_task : ByteArray := prog_14_method_75_code
def yX12_task : MethodName := ⟨RX12, "task", "(II)I"⟩
abbrev cX12_gang : ByteArray := prog_14_method_76_code
def yX12_gang : MethodName := ⟨RX12, "gang", "(I)I"⟩
abbrev cX12_tries : ByteArray := prog_14_method_77_code
def yX12_tries : MethodName := ⟨RX12, "tries", "(III)V"⟩
abbrev cX12_plans : ByteArray := prog_14_method_78_code
def yX12_plans : MethodName := ⟨RX12, "plans", "()V"⟩
abbrev cX12_plan : ByteArray := prog_14_method_79_code
def yX12_plan : MethodName := ⟨RX12, "plan", "()I"⟩
abbrev cX12_planned : ByteArray := prog_14_method_80_code
def yX12_planned : MethodName := ⟨RX12, "planned", "(I)I"⟩
abbrev cX12_hatches : ByteArray := prog_14_method_81_code
def yX12_hatches : MethodName := ⟨RX12, "hatches", "(I)I"⟩
abbrev cX12_roll : ByteArray := prog_14_method_82_code
def yX12_roll : MethodName := ⟨RX12, "roll", "(I)I"⟩
abbrev cX12_hasStood : ByteArray := prog_14_method_83_code
def yX12_hasStood : MethodName := ⟨RX12, "hasStood", "(III)Z"⟩
abbrev cX12_ways : ByteArray := prog_14_method_84_code
def yX12_ways : MethodName := ⟨RX12, "ways", "(IIZ)I"⟩
abbrev cX12_stood : ByteArray := prog_14_method_85_code
def yX12_stood : MethodName := ⟨RX12, "stood", "(I)I"⟩
abbrev cX12_stoodAt : ByteArray := prog_14_method_86_code
def yX12_stoodAt : MethodName := ⟨RX12, "stoodAt", "(II)I"⟩
abbrev cX12_count : ByteArray := prog_14_method_87_code
def yX12_count : MethodName := ⟨RX12, "count", "(I)I"⟩
abbrev cX12_isSheet : ByteArray := prog_14_method_88_code
def yX12_isSheet : MethodName := ⟨RX12, "isSheet", "(I)Z"⟩
abbrev cX12_sheet : ByteArray := prog_14_method_89_code
def yX12_sheet : MethodName := ⟨RX12, "sheet", "(III)I"⟩
abbrev cX12_cell : ByteArray := prog_14_method_90_code
def yX12_cell : MethodName := ⟨RX12, "cell", "(III)I"⟩
abbrev cX12_none : ByteArray := prog_14_method_91_code
def yX12_none : MethodName := ⟨RX12, "none", "(II)I"⟩
abbrev cX12_taken : ByteArray := prog_14_method_92_code
def yX12_taken : MethodName := ⟨RX12, "taken", "(II)I"⟩
def RJ9 : String := "java/lang/Math"
def TJ9 : u_T := fun k => match k with
  | _ => ("", "", "", false)
def tyJ9 : Nat → FieldType := fun k => match k with
  | _ => .int
abbrev wsJ90 : List Cond := u_ws RJ9 TJ9 0
abbrev cJ9_abs_0f7a4 : ByteArray := prog_15_method_59_code
def yJ9_abs_0f7a4 : MethodName := ⟨RJ9, "abs", "(I)I"⟩
abbrev cJ9_max_7cf53 : ByteArray := prog_15_method_65_code
def yJ9_max_7cf53 : MethodName := ⟨RJ9, "max", "(II)I"⟩
abbrev cJ9_max_f86c9 : ByteArray := prog_15_method_66_code
def yJ9_max_f86c9 : MethodName := ⟨RJ9, "max", "(JJ)J"⟩
abbrev cJ9_min_7cf53 : ByteArray := prog_15_method_69_code
def yJ9_min_7cf53 : MethodName := ⟨RJ9, "min", "(II)I"⟩
def RJ0 : String := "java/lang/String"
def TJ0 : u_T := fun k => match k with
  | _ => ("", "", "", false)
def tyJ0 : Nat → FieldType := fun k => match k with
  | _ => .int
abbrev wsJ00 : List Cond := u_ws RJ0 TJ0 0
abbrev cJ0_length_8abf5 : ByteArray := prog_16_method_54_code
def yJ0_length_8abf5 : MethodName := ⟨RJ0, "length", "()I"⟩
abbrev cJ0_charAt_5068e : ByteArray := prog_16_method_56_code
def yJ0_charAt_5068e : MethodName := ⟨RJ0, "charAt", "(I)C"⟩
abbrev cJ0_coder_7d493 : ByteArray := prog_16_method_152_code
def yJ0_coder_7d493 : MethodName := ⟨RJ0, "coder", "()B"⟩
abbrev cJ0_isLatin1_aae02 : ByteArray := prog_16_method_154_code
def yJ0_isLatin1_aae02 : MethodName := ⟨RJ0, "isLatin1", "()Z"⟩
abbrev cJ0_checkIndex_df160 : ByteArray := prog_16_method_155_code
def yJ0_checkIndex_df160 : MethodName := ⟨RJ0, "checkIndex", "(II)V"⟩
def RJ1 : String := "java/lang/StringLatin1"
def TJ1 : u_T := fun k => match k with
  | _ => ("", "", "", false)
def tyJ1 : Nat → FieldType := fun k => match k with
  | _ => .int
abbrev wsJ10 : List Cond := u_ws RJ1 TJ1 0
abbrev cJ1_charAt_3b067 : ByteArray := prog_17_method_2_code
def yJ1_charAt_3b067 : MethodName := ⟨RJ1, "charAt", "([BI)C"⟩
def RJ2 : String := "java/lang/StringUTF16"
def TJ2 : u_T := fun k => match k with
  | _ => ("", "", "", false)
def tyJ2 : Nat → FieldType := fun k => match k with
  | _ => .int
abbrev wsJ20 : List Cond := u_ws RJ2 TJ2 0
abbrev cJ2_getChar_3b067 : ByteArray := prog_18_method_5_code
def yJ2_getChar_3b067 : MethodName := ⟨RJ2, "getChar", "([BI)C"⟩
abbrev cJ2_length_9d52b : ByteArray := prog_18_method_6_code
def yJ2_length_9d52b : MethodName := ⟨RJ2, "length", "([B)I"⟩
abbrev cJ2_charAt_3b067 : ByteArray := prog_18_method_83_code
def yJ2_charAt_3b067 : MethodName := ⟨RJ2, "charAt", "([BI)C"⟩
abbrev cJ2_checkIndex_2214a : ByteArray := prog_18_method_91_code
def yJ2_checkIndex_2214a : MethodName := ⟨RJ2, "checkIndex", "(I[B)V"⟩
def RJ3 : String := "jdk/internal/util/Preconditions"
def TJ3 : u_T := fun k => match k with
  | _ => ("", "", "", false)
def tyJ3 : Nat → FieldType := fun k => match k with
  | _ => .int
abbrev wsJ30 : List Cond := u_ws RJ3 TJ3 0
abbrev cJ3_checkIndex_8e157 : ByteArray := prog_19_method_11_code
def yJ3_checkIndex_8e157 : MethodName := ⟨RJ3, "checkIndex", "(IILjava/util/function/BiFunction;)I"⟩
def RL : String := "WreckFieldLaw"
abbrev cL_law : ByteArray := code
def yL_law : MethodName := ⟨RL, "law", "([I)Z"⟩
def px_good : List Cond := lw_tbl.filter goodWord
theorem px_mem_good {w : Cond} (h : w ∈ lw_tbl) (hg : goodWord w = true) : w ∈ px_good := List.mem_filter.mpr ⟨h, hg⟩
theorem px_good_in {ws : List Cond} (h : (ws.all fun w => decide (w ∈ lw_tbl) && goodWord w) = true) : ∀ w ∈ ws, w ∈ px_good := fun w hw => by
  have h1 := List.all_eq_true.mp h w hw
  simp only [Bool.and_eq_true, decide_eq_true_eq] at h1
  exact px_mem_good h1.1 h1.2
theorem iX0 : ∀ w ∈ u_ws RX0 TX0 5, w ∈ px_good := px_good_in (by decide +kernel)
theorem iX1 : ∀ w ∈ u_ws RX1 TX1 7, w ∈ px_good := px_good_in (by decide +kernel)
theorem iX2 : ∀ w ∈ u_ws RX2 TX2 9, w ∈ px_good := px_good_in (by decide +kernel)
theorem iX3 : ∀ w ∈ u_ws RX3 TX3 10, w ∈ px_good := px_good_in (by decide +kernel)
theorem iX4 : ∀ w ∈ u_ws RX4 TX4 6, w ∈ px_good := px_good_in (by decide +kernel)
theorem iX5 : ∀ w ∈ u_ws RX5 TX5 8, w ∈ px_good := px_good_in (by decide +kernel)
theorem iX6 : ∀ w ∈ u_ws RX6 TX6 3, w ∈ px_good := px_good_in (by decide +kernel)
theorem iX7 : ∀ w ∈ u_ws RX7 TX7 18, w ∈ px_good := px_good_in (by decide +kernel)
theorem iX8 : ∀ w ∈ u_ws RX8 TX8 3, w ∈ px_good := px_good_in (by decide +kernel)
theorem iX9 : ∀ w ∈ u_ws RX9 TX9 2, w ∈ px_good := px_good_in (by decide +kernel)
theorem iX10 : ∀ w ∈ u_ws RX10 TX10 5, w ∈ px_good := px_good_in (by decide +kernel)
theorem iX11 : ∀ w ∈ u_ws RX11 TX11 8, w ∈ px_good := px_good_in (by decide +kernel)
theorem iX12 : ∀ w ∈ u_ws RX12 TX12 69, w ∈ px_good := px_good_in (by decide +kernel)
abbrev px_cl : List vw_C := [(RX0, TX0, 5), (RX1, TX1, 7), (RX2, TX2, 9), (RX3, TX3, 10), (RX4, TX4, 6), (RX5, TX5, 8), (RX6, TX6, 3), (RX7, TX7, 18), (RX8, TX8, 3), (RX9, TX9, 2), (RX10, TX10, 5), (RX11, TX11, 8), (RX12, TX12, 69)]
def px_inf0 : List (MethodName × ByteArray × Nat × Option FieldType) := [(yX0_init, cX0_init, 6, none), (yX0_end, cX0_end, 1, (some .int)), (yX0_has, cX0_has, 2, (some .boolean)), (yX0_meets, cX0_meets, 3, (some .boolean)), (yX1_init, cX1_init, 1, none), (yX1_addDiver, cX1_addDiver, 1, (some .int)), (yX1_hasDiver, cX1_hasDiver, 2, (some .boolean)), (yX1_putRow, cX1_putRow, 5, (some .int)), (yX1_firstRowFrom, cX1_firstRowFrom, 3, (some .int)), (yX1_openRow, cX1_openRow, 3, none), (yX1_restAfter, cX1_restAfter, 3, (some .int)), (yX1_canBeAsked, cX1_canBeAsked, 6, (some .boolean)), (yX1_refusal, cX1_refusal, 7, (some .int)), (yX1_tableRefusal, cX1_tableRefusal, 4, (some .int)), (yX1_timeRefusal, cX1_timeRefusal, 10, (some .int)), (yX1_isTooNear, cX1_isTooNear, 5, (some .boolean)), (yX1_minutesOn, cX1_minutesOn, 6, (some .int)), (yX1_addDive, cX1_addDive, 6, (some .int)), (yX1_dropLast, cX1_dropLast, 1, (some .int)), (yX1_firstMoment, cX1_firstMoment, 12, (some .int)), (yX1_pastHindrance, cX1_pastHindrance, 10, (some .int)), (yX2_init, cX2_init, 5, none), (yX2_x, cX2_x, 1, (some .int)), (yX2_y, cX2_y, 1, (some .int)), (yX2_isUnder, cX2_isUnder, 4, (some .boolean)), (yX2_addHole, cX2_addHole, 3, (some .int)), (yX2_item, cX2_item, 2, (some .int)), (yX2_readyDay, cX2_readyDay, 1, (some .int)), (yX2_goInto, cX2_goInto, 3, none), (yX2_goOut, cX2_goOut, 1, none), (yX3_init, cX3_init, 1, none), (yX3_addTask, cX3_addTask, 6, (some .int))]
def px_inf1 : List (MethodName × ByteArray × Nat × Option FieldType) := [(yX3_addGang, cX3_addGang, 2, (some .int)), (yX3_greatestWorth, cX3_greatestWorth, 1, (some .int)), (yX3_gangOf, cX3_gangOf, 2, (some .int)), (yX3_planIfNew, cX3_planIfNew, 3, none), (yX3_giveToGang, cX3_giveToGang, 9, none), (yX3_keepPlan, cX3_keepPlan, 7, none), (yX4_init, cX4_init, 1, none), (yX4_clear, cX4_clear, 1, none), (yX4_add, cX4_add, 3, none), (yX4_endBar, cX4_endBar, 1, none), (yX4_firstHolding, cX4_firstHolding, 4, (some .int)), (yX4_valueOf, cX4_valueOf, 7, (some .int)), (yX4_named, cX4_named, 3, (some .int)), (yX4_ofOne, cX4_ofOne, 2, (some .int)), (yX4_ofTwo, cX4_ofTwo, 3, (some .int)), (yX4_truth, cX4_truth, 1, (some .int)), (yX5_init, cX5_init, 1, none), (yX5_append, cX5_append, 5, (some .int)), (yX5_readAll, cX5_readAll, 3, (some .int)), (yX5_readBars, cX5_readBars, 2, (some .boolean)), (yX5_readOr, cX5_readOr, 4, (some .boolean)), (yX5_readAnd, cX5_readAnd, 4, (some .boolean)), (yX5_readNot, cX5_readNot, 3, (some .boolean)), (yX5_readCompared, cX5_readCompared, 4, (some .boolean)), (yX5_readSum, cX5_readSum, 5, (some .boolean)), (yX5_readTerm, cX5_readTerm, 4, (some .boolean)), (yX5_readOne, cX5_readOne, 2, (some .boolean)), (yX5_readNegated, cX5_readNegated, 3, (some .boolean)), (yX5_readInner, cX5_readInner, 2, (some .boolean)), (yX5_next, cX5_next, 2, none), (yX5_isLetter, cX5_isLetter, 1, (some .boolean)), (yX5_isDigit, cX5_isDigit, 1, (some .boolean))]
def px_inf2 : List (MethodName × ByteArray × Nat × Option FieldType) := [(yX5_isSign, cX5_isSign, 1, (some .boolean)), (yX5_takeNumber, cX5_takeNumber, 1, none), (yX5_takeWord, cX5_takeWord, 2, none), (yX5_isAtHand, cX5_isAtHand, 3, (some .boolean)), (yX5_wordAt, cX5_wordAt, 1, (some (.object "java/lang/String"))), (yX6_init, cX6_init, 1, none), (yX6_has, cX6_has, 2, (some .boolean)), (yX6_make, cX6_make, 5, (some .int)), (yX6_put, cX6_put, 4, (some .int)), (yX6_cutTo, cX6_cutTo, 2, (some .int)), (yX6_wipe, cX6_wipe, 4, (some .int)), (yX6_floatsRefusal, cX6_floatsRefusal, 2, (some .int)), (yX6_holds, cX6_holds, 3, (some .boolean)), (yX6_isNumber, cX6_isNumber, 3, (some .boolean)), (yX6_whole, cX6_whole, 3, (some .int)), (yX7_init, cX7_init, 1, none), (yX7_addMark, cX7_addMark, 4, (some .int)), (yX7_addTape, cX7_addTape, 4, (some .int)), (yX7_hasMark, cX7_hasMark, 2, (some .boolean)), (yX7_forgetRounds, cX7_forgetRounds, 2, none), (yX7_changeBar, cX7_changeBar, 3, (some .int)), (yX7_markTold, cX7_markTold, 4, (some .long)), (yX7_tapeItem, cX7_tapeItem, 3, (some .long)), (yX7_squares, cX7_squares, 7, (some .long)), (yX7_fittedRound, cX7_fittedRound, 2, (some .int)), (yX7_isOut, cX7_isOut, 3, (some .boolean)), (yX7_miss, cX7_miss, 5, (some .int)), (yX7_distance, cX7_distance, 7, (some .int)), (yX7_fitIfNew, cX7_fitIfNew, 6, none), (yX7_goToTold, cX7_goToTold, 3, none), (yX7_gatherNear, cX7_gatherNear, 6, none), (yX7_moveMark, cX7_moveMark, 17, (some .boolean))]
def px_inf3 : List (MethodName × ByteArray × Nat × Option FieldType) := [(yX7_nearSquares, cX7_nearSquares, 10, (some .long)), (yX7_judge, cX7_judge, 6, none), (yX8_init, cX8_init, 1, none), (yX8_match, cX8_match, 6, none), (yX8_takeIfGreater, cX8_takeIfGreater, 2, none), (yX8_bestOf, cX8_bestOf, 8, (some .int)), (yX9_init, cX9_init, 1, none), (yX9_openHatches, cX9_openHatches, 3, (some .int)), (yX9_changeRoll, cX9_changeRoll, 3, (some .int)), (yX9_ways, cX9_ways, 4, (some .int)), (yX9_wayAt, cX9_wayAt, 6, (some .int)), (yX9_placeOn, cX9_placeOn, 6, (some .int)), (yX9_decksDown, cX9_decksDown, 4, (some .int)), (yX10_init, cX10_init, 1, none), (yX10_addFind, cX10_addFind, 5, (some .int)), (yX10_findAt, cX10_findAt, 2, (some (.object "WreckField$Find"))), (yX10_timberAt, cX10_timberAt, 3, (some (.object "WreckField$Find"))), (yX10_inField, cX10_inField, 4, (some .int)), (yX10_addTank, cX10_addTank, 3, (some .int)), (yX10_hasTank, cX10_hasTank, 2, (some .boolean)), (yX10_tankItem, cX10_tankItem, 3, (some .int)), (yX10_sizesIn, cX10_sizesIn, 5, (some .int)), (yX10_findsIn, cX10_findsIn, 5, (some .int)), (yX10_refusal, cX10_refusal, 3, (some .int)), (yX11_init, cX11_init, 1, none), (yX11_mark, cX11_mark, 4, (some .int)), (yX11_tape, cX11_tape, 4, (some .int)), (yX11_tapes, cX11_tapes, 8, (some .int)), (yX11_tapeFrom, cX11_tapeFrom, 3, (some .int)), (yX11_bar, cX11_bar, 2, (some .int)), (yX11_fit, cX11_fit, 3, (some .long)), (yX11_tapeTold, cX11_tapeTold, 3, (some .long))]
def px_inf4 : List (MethodName × ByteArray × Nat × Option FieldType) := [(yX11_sum, cX11_sum, 1, (some .long)), (yX11_find, cX11_find, 5, (some .int)), (yX11_hole, cX11_hole, 4, (some .int)), (yX11_findTold, cX11_findTold, 4, (some .int)), (yX11_tank, cX11_tank, 3, (some .int)), (yX11_tankTold, cX11_tankTold, 3, (some .int)), (yX11_lift, cX11_lift, 6, (some .int)), (yX11_why, cX11_why, 4, (some .int)), (yX11_liftRefusal, cX11_liftRefusal, 7, (some .int)), (yX11_isDay, cX11_isDay, 1, (some .boolean)), (yX11_take, cX11_take, 4, (some .int)), (yX11_diver, cX11_diver, 1, (some .int)), (yX11_row, cX11_row, 4, (some .int)), (yX11_dive, cX11_dive, 7, (some .int)), (yX11_cancel, cX11_cancel, 1, (some .int)), (yX11_under, cX11_under, 3, (some .int)), (yX11_soonest, cX11_soonest, 6, (some .int)), (yX11_feed, cX11_feed, 4, (some .int)), (yX11_rule, cX11_rule, 1, (some .int)), (yX11_worth, cX11_worth, 5, (some .long)), (yX11_bond, cX11_bond, 6, (some .int)), (yX11_best, cX11_best, 2, (some .int)), (yX11_joined, cX11_joined, 3, (some .int)), (yX11_task, cX11_task, 3, (some .int)), (yX11_gang, cX11_gang, 2, (some .int)), (yX11_plan, cX11_plan, 1, (some .int)), (yX11_planned, cX11_planned, 2, (some .int)), (yX11_hatches, cX11_hatches, 2, (some .int)), (yX11_roll, cX11_roll, 2, (some .int)), (yX11_stood, cX11_stood, 3, (some .int)), (yX11_stoodAt, cX11_stoodAt, 4, (some .int)), (yX11_count, cX11_count, 2, (some .int))]
def px_inf5 : List (MethodName × ByteArray × Nat × Option FieldType) := [(yX11_sheet, cX11_sheet, 4, (some .int)), (yX11_cell, cX11_cell, 4, (some .int)), (yX11_none, cX11_none, 3, (some .int)), (yX11_taken, cX11_taken, 4, (some .int)), (yX12_init, cX12_init, 2, none), (yX12_in, cX12_in, 3, (some .boolean)), (yX12_isMark, cX12_isMark, 2, (some .boolean)), (yX12_isFind, cX12_isFind, 2, (some .boolean)), (yX12_isDay, cX12_isDay, 1, (some .boolean)), (yX12_mark, cX12_mark, 4, (some .int)), (yX12_tape, cX12_tape, 4, (some .int)), (yX12_tapes, cX12_tapes, 9, (some .int)), (yX12_bar, cX12_bar, 3, (some .int)), (yX12_root, cX12_root, 4, (some .int)), (yX12_miss, cX12_miss, 4, (some .int)), (yX12_misses, cX12_misses, 7, (some .long)), (yX12_goes, cX12_goes, 13, none), (yX12_fits, cX12_fits, 4, none), (yX12_knows, cX12_knows, 5, none), (yX12_fit, cX12_fit, 3, (some .long)), (yX12_tapeTold, cX12_tapeTold, 3, (some .long)), (yX12_sum, cX12_sum, 6, (some .long)), (yX12_find, cX12_find, 5, (some .int)), (yX12_isTimber, cX12_isTimber, 2, (some .boolean)), (yX12_hole, cX12_hole, 5, (some .int)), (yX12_weeks, cX12_weeks, 2, (some .int)), (yX12_findTold, cX12_findTold, 4, (some .int)), (yX12_tank, cX12_tank, 3, (some .int)), (yX12_inTank, cX12_inTank, 5, (some .int)), (yX12_tankTold, cX12_tankTold, 3, (some .int)), (yX12_isUnder, cX12_isUnder, 2, (some .boolean)), (yX12_hinders, cX12_hinders, 5, (some .int))]
def px_inf6 : List (MethodName × ByteArray × Nat × Option FieldType) := [(yX12_why, cX12_why, 4, (some .int)), (yX12_lift, cX12_lift, 5, (some .int)), (yX12_take, cX12_take, 3, (some .int)), (yX12_diver, cX12_diver, 1, (some .int)), (yX12_row, cX12_row, 6, (some .int)), (yX12_rowOf, cX12_rowOf, 3, (some .int)), (yX12_restOf, cX12_restOf, 3, (some .int)), (yX12_isOf, cX12_isOf, 4, (some .boolean)), (yX12_minutesOn, cX12_minutesOn, 5, (some .int)), (yX12_refused, cX12_refused, 7, (some .int)), (yX12_clashes, cX12_clashes, 10, (some .int)), (yX12_isDive, cX12_isDive, 7, (some .boolean)), (yX12_dive, cX12_dive, 7, (some .int)), (yX12_cancel, cX12_cancel, 1, (some .int)), (yX12_under, cX12_under, 3, (some .int)), (yX12_soonest, cX12_soonest, 7, (some .int)), (yX12_byteAt, cX12_byteAt, 2, (some .int)), (yX12_isLetter, cX12_isLetter, 1, (some .boolean)), (yX12_isDigit, cX12_isDigit, 1, (some .boolean)), (yX12_next, cX12_next, 3, none), (yX12_number, cX12_number, 1, none), (yX12_word, cX12_word, 5, none), (yX12_isWrong, cX12_isWrong, 1, (some .boolean)), (yX12_cannot, cX12_cannot, 1, none), (yX12_need, cX12_need, 2, none), (yX12_opens, cX12_opens, 1, none), (yX12_emit, cX12_emit, 3, none), (yX12_reads, cX12_reads, 2, (some .int)), (yX12_either, cX12_either, 1, none), (yX12_both, cX12_both, 1, none), (yX12_not, cX12_not, 2, none), (yX12_added, cX12_added, 2, none)]
def px_inf7 : List (MethodName × ByteArray × Nat × Option FieldType) := [(yX12_term, cX12_term, 1, none), (yX12_one, cX12_one, 1, none), (yX12_feed, cX12_feed, 5, (some .int)), (yX12_rule, cX12_rule, 3, (some .int)), (yX12_two, cX12_two, 3, (some .int)), (yX12_named, cX12_named, 4, (some .int)), (yX12_worked, cX12_worked, 7, (some .int)), (yX12_worth, cX12_worth, 4, (some .long)), (yX12_shared, cX12_shared, 7, (some .int)), (yX12_bonded, cX12_bonded, 9, (some .int)), (yX12_bond, cX12_bond, 4, (some .int)), (yX12_bestOf, cX12_bestOf, 5, (some .int)), (yX12_best, cX12_best, 2, (some .int)), (yX12_joined, cX12_joined, 3, (some .int)), (yX12_task, cX12_task, 3, (some .int)), (yX12_gang, cX12_gang, 2, (some .int)), (yX12_tries, cX12_tries, 5, none), (yX12_plans, cX12_plans, 3, none), (yX12_plan, cX12_plan, 1, (some .int)), (yX12_planned, cX12_planned, 2, (some .int)), (yX12_hatches, cX12_hatches, 3, (some .int)), (yX12_roll, cX12_roll, 3, (some .int)), (yX12_hasStood, cX12_hasStood, 6, (some .boolean)), (yX12_ways, cX12_ways, 7, (some .int)), (yX12_stood, cX12_stood, 2, (some .int)), (yX12_stoodAt, cX12_stoodAt, 3, (some .int)), (yX12_count, cX12_count, 4, (some .int)), (yX12_isSheet, cX12_isSheet, 1, (some .boolean)), (yX12_sheet, cX12_sheet, 5, (some .int)), (yX12_cell, cX12_cell, 4, (some .int)), (yX12_none, cX12_none, 3, (some .int)), (yX12_taken, cX12_taken, 3, (some .int))]
def px_inf8 : List (MethodName × ByteArray × Nat × Option FieldType) := [(yL_law, cL_law, 4, some .boolean)]
def px_inf : List (MethodName × ByteArray × Nat × Option FieldType) := px_inf0 ++ (px_inf1 ++ (px_inf2 ++ (px_inf3 ++ (px_inf4 ++ (px_inf5 ++ (px_inf6 ++ (px_inf7 ++ (px_inf8))))))))
