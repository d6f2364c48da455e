section
-- ===== PART A: goes FIRST, ahead of the names: the tables' words, and 'selects' of the private methods out of them =====
/-- a private method of a class that the tables say can be made, by its rows of tables_1 -/
def lw_okq (q : MethodName × Nat) : Prop := (q.1.cls ≠ "java/lang/invoke/MethodHandle" ∧ q.1.cls ≠ "java/lang/invoke/VarHandle") ∧ Cond.instantiable q.1.cls q.2 ∈ tables_1 ∧ Cond.privateMethod q.1 ∈ tables_1 ∧ Cond.instanceMethod q.1 ∈ tables_1
theorem lw_p0 : lw_okq (⟨"StrawButts$Tape", "scanToken", "(I)I"⟩, 11) := ⟨⟨by decide +kernel, by decide +kernel⟩, List.mem_of_getElem? (i := 30) (by decide +kernel), List.mem_of_getElem? (i := 351) (by decide +kernel), List.mem_of_getElem? (i := 352) (by decide +kernel)⟩
theorem lw_p1 : lw_okq (⟨"StrawButts$Tape", "isDigit", "(I)Z"⟩, 11) := ⟨⟨by decide +kernel, by decide +kernel⟩, List.mem_of_getElem? (i := 30) (by decide +kernel), List.mem_of_getElem? (i := 355) (by decide +kernel), List.mem_of_getElem? (i := 356) (by decide +kernel)⟩
theorem lw_p2 : lw_okq (⟨"StrawButts$Tape", "scanNumber", "(I)I"⟩, 11) := ⟨⟨by decide +kernel, by decide +kernel⟩, List.mem_of_getElem? (i := 30) (by decide +kernel), List.mem_of_getElem? (i := 359) (by decide +kernel), List.mem_of_getElem? (i := 360) (by decide +kernel)⟩
theorem lw_p3 : lw_okq (⟨"StrawButts$Tape", "addToken", "(III)V"⟩, 11) := ⟨⟨by decide +kernel, by decide +kernel⟩, List.mem_of_getElem? (i := 30) (by decide +kernel), List.mem_of_getElem? (i := 363) (by decide +kernel), List.mem_of_getElem? (i := 364) (by decide +kernel)⟩
theorem lw_p4 : lw_okq (⟨"StrawButts$Tape", "isLetter", "(I)Z"⟩, 11) := ⟨⟨by decide +kernel, by decide +kernel⟩, List.mem_of_getElem? (i := 30) (by decide +kernel), List.mem_of_getElem? (i := 367) (by decide +kernel), List.mem_of_getElem? (i := 368) (by decide +kernel)⟩
theorem lw_p5 : lw_okq (⟨"StrawButts$Tape", "scanWord", "(I)I"⟩, 11) := ⟨⟨by decide +kernel, by decide +kernel⟩, List.mem_of_getElem? (i := 30) (by decide +kernel), List.mem_of_getElem? (i := 371) (by decide +kernel), List.mem_of_getElem? (i := 372) (by decide +kernel)⟩
theorem lw_p6 : lw_okq (⟨"StrawButts$Tape", "wordOf", "(II)I"⟩, 11) := ⟨⟨by decide +kernel, by decide +kernel⟩, List.mem_of_getElem? (i := 30) (by decide +kernel), List.mem_of_getElem? (i := 375) (by decide +kernel), List.mem_of_getElem? (i := 376) (by decide +kernel)⟩
theorem lw_p7 : lw_okq (⟨"StrawButts$Tape", "isNamed", "(III)Z"⟩, 11) := ⟨⟨by decide +kernel, by decide +kernel⟩, List.mem_of_getElem? (i := 30) (by decide +kernel), List.mem_of_getElem? (i := 428) (by decide +kernel), List.mem_of_getElem? (i := 429) (by decide +kernel)⟩
theorem lw_p8 : lw_okq (⟨"StrawButts$GreenReader", "readClause", "(LStrawButts$Tape;I)V"⟩, 1) := ⟨⟨by decide +kernel, by decide +kernel⟩, List.mem_of_getElem? (i := 80) (by decide +kernel), List.mem_of_getElem? (i := 443) (by decide +kernel), List.mem_of_getElem? (i := 444) (by decide +kernel)⟩
theorem lw_p9 : lw_okq (⟨"StrawButts$GreenReader", "isFullOf", "(I)Z"⟩, 1) := ⟨⟨by decide +kernel, by decide +kernel⟩, List.mem_of_getElem? (i := 80) (by decide +kernel), List.mem_of_getElem? (i := 454) (by decide +kernel), List.mem_of_getElem? (i := 455) (by decide +kernel)⟩
theorem lw_p10 : lw_okq (⟨"StrawButts$GreenReader", "readNumbers", "(LStrawButts$Tape;I)V"⟩, 1) := ⟨⟨by decide +kernel, by decide +kernel⟩, List.mem_of_getElem? (i := 80) (by decide +kernel), List.mem_of_getElem? (i := 459) (by decide +kernel), List.mem_of_getElem? (i := 460) (by decide +kernel)⟩
theorem lw_p11 : lw_okq (⟨"StrawButts$GreenReader", "readNumber", "(LStrawButts$Tape;II)I"⟩, 1) := ⟨⟨by decide +kernel, by decide +kernel⟩, List.mem_of_getElem? (i := 80) (by decide +kernel), List.mem_of_getElem? (i := 463) (by decide +kernel), List.mem_of_getElem? (i := 464) (by decide +kernel)⟩
theorem lw_p12 : lw_okq (⟨"StrawButts$GreenReader", "readFreePlace", "(LStrawButts$Tape;)I"⟩, 1) := ⟨⟨by decide +kernel, by decide +kernel⟩, List.mem_of_getElem? (i := 80) (by decide +kernel), List.mem_of_getElem? (i := 468) (by decide +kernel), List.mem_of_getElem? (i := 469) (by decide +kernel)⟩
theorem lw_p13 : lw_okq (⟨"StrawButts$GreenReader", "complete", "()V"⟩, 1) := ⟨⟨by decide +kernel, by decide +kernel⟩, List.mem_of_getElem? (i := 80) (by decide +kernel), List.mem_of_getElem? (i := 485) (by decide +kernel), List.mem_of_getElem? (i := 486) (by decide +kernel)⟩
theorem lw_p14 : lw_okq (⟨"StrawButts$RuleReader", "readClause", "(LStrawButts$Tape;I)V"⟩, 3) := ⟨⟨by decide +kernel, by decide +kernel⟩, List.mem_of_getElem? (i := 107) (by decide +kernel), List.mem_of_getElem? (i := 506) (by decide +kernel), List.mem_of_getElem? (i := 507) (by decide +kernel)⟩
theorem lw_p15 : lw_okq (⟨"StrawButts$RuleReader", "readSum", "(LStrawButts$Tape;)V"⟩, 3) := ⟨⟨by decide +kernel, by decide +kernel⟩, List.mem_of_getElem? (i := 107) (by decide +kernel), List.mem_of_getElem? (i := 516) (by decide +kernel), List.mem_of_getElem? (i := 517) (by decide +kernel)⟩
def lw_privs_1 : List (MethodName × Nat) := [(⟨"StrawButts$Tape", "scanToken", "(I)I"⟩, 11), (⟨"StrawButts$Tape", "isDigit", "(I)Z"⟩, 11), (⟨"StrawButts$Tape", "scanNumber", "(I)I"⟩, 11), (⟨"StrawButts$Tape", "addToken", "(III)V"⟩, 11), (⟨"StrawButts$Tape", "isLetter", "(I)Z"⟩, 11), (⟨"StrawButts$Tape", "scanWord", "(I)I"⟩, 11), (⟨"StrawButts$Tape", "wordOf", "(II)I"⟩, 11), (⟨"StrawButts$Tape", "isNamed", "(III)Z"⟩, 11), (⟨"StrawButts$GreenReader", "readClause", "(LStrawButts$Tape;I)V"⟩, 1), (⟨"StrawButts$GreenReader", "isFullOf", "(I)Z"⟩, 1), (⟨"StrawButts$GreenReader", "readNumbers", "(LStrawButts$Tape;I)V"⟩, 1), (⟨"StrawButts$GreenReader", "readNumber", "(LStrawButts$Tape;II)I"⟩, 1), (⟨"StrawButts$GreenReader", "readFreePlace", "(LStrawButts$Tape;)I"⟩, 1), (⟨"StrawButts$GreenReader", "complete", "()V"⟩, 1), (⟨"StrawButts$RuleReader", "readClause", "(LStrawButts$Tape;I)V"⟩, 3), (⟨"StrawButts$RuleReader", "readSum", "(LStrawButts$Tape;)V"⟩, 3)]
theorem lw_r1 : ∀ q ∈ lw_privs_1, lw_okq q := List.forall_mem_cons.mpr ⟨lw_p0, List.forall_mem_cons.mpr ⟨lw_p1, List.forall_mem_cons.mpr ⟨lw_p2, List.forall_mem_cons.mpr ⟨lw_p3, List.forall_mem_cons.mpr ⟨lw_p4, List.forall_mem_cons.mpr ⟨lw_p5, List.forall_mem_cons.mpr ⟨lw_p6, List.forall_mem_cons.mpr ⟨lw_p7, List.forall_mem_cons.mpr ⟨lw_p8, List.forall_mem_cons.mpr ⟨lw_p9, List.forall_mem_cons.mpr ⟨lw_p10, List.forall_mem_cons.mpr ⟨lw_p11, List.forall_mem_cons.mpr ⟨lw_p12, List.forall_mem_cons.mpr ⟨lw_p13, List.forall_mem_cons.mpr ⟨lw_p14, List.forall_mem_cons.mpr ⟨lw_p15, fun _ h => absurd h List.not_mem_nil⟩⟩⟩⟩⟩⟩⟩⟩⟩⟩⟩⟩⟩⟩⟩⟩
theorem lw_p16 : lw_okq (⟨"StrawButts$RuleReader", "readValue", "(LStrawButts$Tape;)V"⟩, 3) := ⟨⟨by decide +kernel, by decide +kernel⟩, List.mem_of_getElem? (i := 107) (by decide +kernel), List.mem_of_getElem? (i := 520) (by decide +kernel), List.mem_of_getElem? (i := 521) (by decide +kernel)⟩
theorem lw_p17 : lw_okq (⟨"StrawButts$RuleReader", "addStep", "(II)V"⟩, 3) := ⟨⟨by decide +kernel, by decide +kernel⟩, List.mem_of_getElem? (i := 107) (by decide +kernel), List.mem_of_getElem? (i := 524) (by decide +kernel), List.mem_of_getElem? (i := 525) (by decide +kernel)⟩
theorem lw_p18 : lw_okq (⟨"StrawButts$RuleReader", "readTest", "(LStrawButts$Tape;I)V"⟩, 3) := ⟨⟨by decide +kernel, by decide +kernel⟩, List.mem_of_getElem? (i := 107) (by decide +kernel), List.mem_of_getElem? (i := 531) (by decide +kernel), List.mem_of_getElem? (i := 532) (by decide +kernel)⟩
theorem lw_p19 : lw_okq (⟨"StrawButts$RuleReader", "readFact", "(LStrawButts$Tape;I)V"⟩, 3) := ⟨⟨by decide +kernel, by decide +kernel⟩, List.mem_of_getElem? (i := 107) (by decide +kernel), List.mem_of_getElem? (i := 535) (by decide +kernel), List.mem_of_getElem? (i := 536) (by decide +kernel)⟩
theorem lw_p20 : lw_okq (⟨"StrawButts$RuleReader", "readComparison", "(LStrawButts$Tape;)I"⟩, 3) := ⟨⟨by decide +kernel, by decide +kernel⟩, List.mem_of_getElem? (i := 107) (by decide +kernel), List.mem_of_getElem? (i := 540) (by decide +kernel), List.mem_of_getElem? (i := 541) (by decide +kernel)⟩
theorem lw_p21 : lw_okq (⟨"StrawButts", "ruleInForce", "()LStrawButts$Rule;"⟩, 11) := ⟨⟨by decide +kernel, by decide +kernel⟩, List.mem_of_getElem? (i := 22) (by decide +kernel), List.mem_of_getElem? (i := 631) (by decide +kernel), List.mem_of_getElem? (i := 632) (by decide +kernel)⟩
theorem lw_p22 : lw_okq (⟨"StrawButts$Play", "takeTurn", "(I)I"⟩, 8) := ⟨⟨by decide +kernel, by decide +kernel⟩, List.mem_of_getElem? (i := 200) (by decide +kernel), List.mem_of_getElem? (i := 645) (by decide +kernel), List.mem_of_getElem? (i := 646) (by decide +kernel)⟩
theorem lw_p23 : lw_okq (⟨"StrawButts$Play", "aimOf", "(II)I"⟩, 8) := ⟨⟨by decide +kernel, by decide +kernel⟩, List.mem_of_getElem? (i := 200) (by decide +kernel), List.mem_of_getElem? (i := 650) (by decide +kernel), List.mem_of_getElem? (i := 651) (by decide +kernel)⟩
theorem lw_p24 : lw_okq (⟨"StrawButts$Forecast", "takeIfMore", "(II)V"⟩, 5) := ⟨⟨by decide +kernel, by decide +kernel⟩, List.mem_of_getElem? (i := 242) (by decide +kernel), List.mem_of_getElem? (i := 782) (by decide +kernel), List.mem_of_getElem? (i := 783) (by decide +kernel)⟩
theorem lw_p25 : lw_okq (⟨"StrawButts$Forecast", "isRest", "(II)Z"⟩, 5) := ⟨⟨by decide +kernel, by decide +kernel⟩, List.mem_of_getElem? (i := 242) (by decide +kernel), List.mem_of_getElem? (i := 809) (by decide +kernel), List.mem_of_getElem? (i := 810) (by decide +kernel)⟩
theorem lw_p26 : lw_okq (⟨"StrawButts$Forecast", "drawn", "()I"⟩, 5) := ⟨⟨by decide +kernel, by decide +kernel⟩, List.mem_of_getElem? (i := 242) (by decide +kernel), List.mem_of_getElem? (i := 896) (by decide +kernel), List.mem_of_getElem? (i := 897) (by decide +kernel)⟩
theorem lw_p27 : lw_okq (⟨"StrawButtsModel", "four", "(I)V"⟩, 39) := ⟨⟨by decide +kernel, by decide +kernel⟩, List.mem_of_getElem? (i := 923) (by decide +kernel), List.mem_of_getElem? (i := 1052) (by decide +kernel), List.mem_of_getElem? (i := 1053) (by decide +kernel)⟩
theorem lw_p28 : lw_okq (⟨"StrawButtsModel", "readsAll", "()Z"⟩, 39) := ⟨⟨by decide +kernel, by decide +kernel⟩, List.mem_of_getElem? (i := 923) (by decide +kernel), List.mem_of_getElem? (i := 1064) (by decide +kernel), List.mem_of_getElem? (i := 1065) (by decide +kernel)⟩
theorem lw_p29 : lw_okq (⟨"StrawButtsModel", "clauseHere", "()Z"⟩, 39) := ⟨⟨by decide +kernel, by decide +kernel⟩, List.mem_of_getElem? (i := 923) (by decide +kernel), List.mem_of_getElem? (i := 1068) (by decide +kernel), List.mem_of_getElem? (i := 1069) (by decide +kernel)⟩
theorem lw_p30 : lw_okq (⟨"StrawButtsModel", "see", "()I"⟩, 39) := ⟨⟨by decide +kernel, by decide +kernel⟩, List.mem_of_getElem? (i := 923) (by decide +kernel), List.mem_of_getElem? (i := 1072) (by decide +kernel), List.mem_of_getElem? (i := 1073) (by decide +kernel)⟩
theorem lw_p31 : lw_okq (⟨"StrawButtsModel", "isGreenWord", "()Z"⟩, 39) := ⟨⟨by decide +kernel, by decide +kernel⟩, List.mem_of_getElem? (i := 923) (by decide +kernel), List.mem_of_getElem? (i := 1076) (by decide +kernel), List.mem_of_getElem? (i := 1077) (by decide +kernel)⟩
def lw_privs_2 : List (MethodName × Nat) := [(⟨"StrawButts$RuleReader", "readValue", "(LStrawButts$Tape;)V"⟩, 3), (⟨"StrawButts$RuleReader", "addStep", "(II)V"⟩, 3), (⟨"StrawButts$RuleReader", "readTest", "(LStrawButts$Tape;I)V"⟩, 3), (⟨"StrawButts$RuleReader", "readFact", "(LStrawButts$Tape;I)V"⟩, 3), (⟨"StrawButts$RuleReader", "readComparison", "(LStrawButts$Tape;)I"⟩, 3), (⟨"StrawButts", "ruleInForce", "()LStrawButts$Rule;"⟩, 11), (⟨"StrawButts$Play", "takeTurn", "(I)I"⟩, 8), (⟨"StrawButts$Play", "aimOf", "(II)I"⟩, 8), (⟨"StrawButts$Forecast", "takeIfMore", "(II)V"⟩, 5), (⟨"StrawButts$Forecast", "isRest", "(II)Z"⟩, 5), (⟨"StrawButts$Forecast", "drawn", "()I"⟩, 5), (⟨"StrawButtsModel", "four", "(I)V"⟩, 39), (⟨"StrawButtsModel", "readsAll", "()Z"⟩, 39), (⟨"StrawButtsModel", "clauseHere", "()Z"⟩, 39), (⟨"StrawButtsModel", "see", "()I"⟩, 39), (⟨"StrawButtsModel", "isGreenWord", "()Z"⟩, 39)]
theorem lw_r2 : ∀ q ∈ lw_privs_2, lw_okq q := List.forall_mem_cons.mpr ⟨lw_p16, List.forall_mem_cons.mpr ⟨lw_p17, List.forall_mem_cons.mpr ⟨lw_p18, List.forall_mem_cons.mpr ⟨lw_p19, List.forall_mem_cons.mpr ⟨lw_p20, List.forall_mem_cons.mpr ⟨lw_p21, List.forall_mem_cons.mpr ⟨lw_p22, List.forall_mem_cons.mpr ⟨lw_p23, List.forall_mem_cons.mpr ⟨lw_p24, List.forall_mem_cons.mpr ⟨lw_p25, List.forall_mem_cons.mpr ⟨lw_p26, List.forall_mem_cons.mpr ⟨lw_p27, List.forall_mem_cons.mpr ⟨lw_p28, List.forall_mem_cons.mpr ⟨lw_p29, List.forall_mem_cons.mpr ⟨lw_p30, List.forall_mem_cons.mpr ⟨lw_p31, fun _ h => absurd h List.not_mem_nil⟩⟩⟩⟩⟩⟩⟩⟩⟩⟩⟩⟩⟩⟩⟩⟩
theorem lw_p32 : lw_okq (⟨"StrawButtsModel", "isWord", "(J)Z"⟩, 39) := ⟨⟨by decide +kernel, by decide +kernel⟩, List.mem_of_getElem? (i := 923) (by decide +kernel), List.mem_of_getElem? (i := 1081) (by decide +kernel), List.mem_of_getElem? (i := 1082) (by decide +kernel)⟩
theorem lw_p33 : lw_okq (⟨"StrawButtsModel", "isLetter", "(I)Z"⟩, 39) := ⟨⟨by decide +kernel, by decide +kernel⟩, List.mem_of_getElem? (i := 923) (by decide +kernel), List.mem_of_getElem? (i := 1085) (by decide +kernel), List.mem_of_getElem? (i := 1086) (by decide +kernel)⟩
theorem lw_p34 : lw_okq (⟨"StrawButtsModel", "fails", "(II)Z"⟩, 39) := ⟨⟨by decide +kernel, by decide +kernel⟩, List.mem_of_getElem? (i := 923) (by decide +kernel), List.mem_of_getElem? (i := 1093) (by decide +kernel), List.mem_of_getElem? (i := 1094) (by decide +kernel)⟩
theorem lw_p35 : lw_okq (⟨"StrawButtsModel", "greenLineHere", "(I)Z"⟩, 39) := ⟨⟨by decide +kernel, by decide +kernel⟩, List.mem_of_getElem? (i := 923) (by decide +kernel), List.mem_of_getElem? (i := 1097) (by decide +kernel), List.mem_of_getElem? (i := 1098) (by decide +kernel)⟩
theorem lw_p36 : lw_okq (⟨"StrawButtsModel", "isGreenHere", "(I)Z"⟩, 39) := ⟨⟨by decide +kernel, by decide +kernel⟩, List.mem_of_getElem? (i := 923) (by decide +kernel), List.mem_of_getElem? (i := 1101) (by decide +kernel), List.mem_of_getElem? (i := 1102) (by decide +kernel)⟩
theorem lw_p37 : lw_okq (⟨"StrawButtsModel", "passWord", "()V"⟩, 39) := ⟨⟨by decide +kernel, by decide +kernel⟩, List.mem_of_getElem? (i := 923) (by decide +kernel), List.mem_of_getElem? (i := 1105) (by decide +kernel), List.mem_of_getElem? (i := 1106) (by decide +kernel)⟩
theorem lw_p38 : lw_okq (⟨"StrawButtsModel", "cellHere", "(III)Z"⟩, 39) := ⟨⟨by decide +kernel, by decide +kernel⟩, List.mem_of_getElem? (i := 923) (by decide +kernel), List.mem_of_getElem? (i := 1109) (by decide +kernel), List.mem_of_getElem? (i := 1110) (by decide +kernel)⟩
theorem lw_p39 : lw_okq (⟨"StrawButtsModel", "numberHere", "(II)Z"⟩, 39) := ⟨⟨by decide +kernel, by decide +kernel⟩, List.mem_of_getElem? (i := 923) (by decide +kernel), List.mem_of_getElem? (i := 1113) (by decide +kernel), List.mem_of_getElem? (i := 1114) (by decide +kernel)⟩
theorem lw_p40 : lw_okq (⟨"StrawButtsModel", "isDigit", "(I)Z"⟩, 39) := ⟨⟨by decide +kernel, by decide +kernel⟩, List.mem_of_getElem? (i := 923) (by decide +kernel), List.mem_of_getElem? (i := 1117) (by decide +kernel), List.mem_of_getElem? (i := 1118) (by decide +kernel)⟩
theorem lw_p41 : lw_okq (⟨"StrawButtsModel", "isWindHere", "(I)Z"⟩, 39) := ⟨⟨by decide +kernel, by decide +kernel⟩, List.mem_of_getElem? (i := 923) (by decide +kernel), List.mem_of_getElem? (i := 1124) (by decide +kernel), List.mem_of_getElem? (i := 1125) (by decide +kernel)⟩
theorem lw_p42 : lw_okq (⟨"StrawButtsModel", "isRingHere", "(I)Z"⟩, 39) := ⟨⟨by decide +kernel, by decide +kernel⟩, List.mem_of_getElem? (i := 923) (by decide +kernel), List.mem_of_getElem? (i := 1128) (by decide +kernel), List.mem_of_getElem? (i := 1129) (by decide +kernel)⟩
theorem lw_p43 : lw_okq (⟨"StrawButtsModel", "isTaken", "(I)Z"⟩, 39) := ⟨⟨by decide +kernel, by decide +kernel⟩, List.mem_of_getElem? (i := 923) (by decide +kernel), List.mem_of_getElem? (i := 1132) (by decide +kernel), List.mem_of_getElem? (i := 1133) (by decide +kernel)⟩
theorem lw_p44 : lw_okq (⟨"StrawButtsModel", "isArcherHere", "(I)Z"⟩, 39) := ⟨⟨by decide +kernel, by decide +kernel⟩, List.mem_of_getElem? (i := 923) (by decide +kernel), List.mem_of_getElem? (i := 1136) (by decide +kernel), List.mem_of_getElem? (i := 1137) (by decide +kernel)⟩
theorem lw_p45 : lw_okq (⟨"StrawButtsModel", "isAimHere", "()Z"⟩, 39) := ⟨⟨by decide +kernel, by decide +kernel⟩, List.mem_of_getElem? (i := 923) (by decide +kernel), List.mem_of_getElem? (i := 1140) (by decide +kernel), List.mem_of_getElem? (i := 1141) (by decide +kernel)⟩
theorem lw_p46 : lw_okq (⟨"StrawButtsModel", "sum", "()Z"⟩, 39) := ⟨⟨by decide +kernel, by decide +kernel⟩, List.mem_of_getElem? (i := 923) (by decide +kernel), List.mem_of_getElem? (i := 1144) (by decide +kernel), List.mem_of_getElem? (i := 1145) (by decide +kernel)⟩
theorem lw_p47 : lw_okq (⟨"StrawButtsModel", "term", "()Z"⟩, 39) := ⟨⟨by decide +kernel, by decide +kernel⟩, List.mem_of_getElem? (i := 923) (by decide +kernel), List.mem_of_getElem? (i := 1148) (by decide +kernel), List.mem_of_getElem? (i := 1149) (by decide +kernel)⟩
def lw_privs_3 : List (MethodName × Nat) := [(⟨"StrawButtsModel", "isWord", "(J)Z"⟩, 39), (⟨"StrawButtsModel", "isLetter", "(I)Z"⟩, 39), (⟨"StrawButtsModel", "fails", "(II)Z"⟩, 39), (⟨"StrawButtsModel", "greenLineHere", "(I)Z"⟩, 39), (⟨"StrawButtsModel", "isGreenHere", "(I)Z"⟩, 39), (⟨"StrawButtsModel", "passWord", "()V"⟩, 39), (⟨"StrawButtsModel", "cellHere", "(III)Z"⟩, 39), (⟨"StrawButtsModel", "numberHere", "(II)Z"⟩, 39), (⟨"StrawButtsModel", "isDigit", "(I)Z"⟩, 39), (⟨"StrawButtsModel", "isWindHere", "(I)Z"⟩, 39), (⟨"StrawButtsModel", "isRingHere", "(I)Z"⟩, 39), (⟨"StrawButtsModel", "isTaken", "(I)Z"⟩, 39), (⟨"StrawButtsModel", "isArcherHere", "(I)Z"⟩, 39), (⟨"StrawButtsModel", "isAimHere", "()Z"⟩, 39), (⟨"StrawButtsModel", "sum", "()Z"⟩, 39), (⟨"StrawButtsModel", "term", "()Z"⟩, 39)]
theorem lw_r3 : ∀ q ∈ lw_privs_3, lw_okq q := List.forall_mem_cons.mpr ⟨lw_p32, List.forall_mem_cons.mpr ⟨lw_p33, List.forall_mem_cons.mpr ⟨lw_p34, List.forall_mem_cons.mpr ⟨lw_p35, List.forall_mem_cons.mpr ⟨lw_p36, List.forall_mem_cons.mpr ⟨lw_p37, List.forall_mem_cons.mpr ⟨lw_p38, List.forall_mem_cons.mpr ⟨lw_p39, List.forall_mem_cons.mpr ⟨lw_p40, List.forall_mem_cons.mpr ⟨lw_p41, List.forall_mem_cons.mpr ⟨lw_p42, List.forall_mem_cons.mpr ⟨lw_p43, List.forall_mem_cons.mpr ⟨lw_p44, List.forall_mem_cons.mpr ⟨lw_p45, List.forall_mem_cons.mpr ⟨lw_p46, List.forall_mem_cons.mpr ⟨lw_p47, fun _ h => absurd h List.not_mem_nil⟩⟩⟩⟩⟩⟩⟩⟩⟩⟩⟩⟩⟩⟩⟩⟩
theorem lw_p48 : lw_okq (⟨"StrawButtsModel", "value", "()Z"⟩, 39) := ⟨⟨by decide +kernel, by decide +kernel⟩, List.mem_of_getElem? (i := 923) (by decide +kernel), List.mem_of_getElem? (i := 1152) (by decide +kernel), List.mem_of_getElem? (i := 1153) (by decide +kernel)⟩
theorem lw_p49 : lw_okq (⟨"StrawButtsModel", "makes", "(I)Z"⟩, 39) := ⟨⟨by decide +kernel, by decide +kernel⟩, List.mem_of_getElem? (i := 923) (by decide +kernel), List.mem_of_getElem? (i := 1157) (by decide +kernel), List.mem_of_getElem? (i := 1158) (by decide +kernel)⟩
theorem lw_p50 : lw_okq (⟨"StrawButtsModel", "puts", "(II)V"⟩, 39) := ⟨⟨by decide +kernel, by decide +kernel⟩, List.mem_of_getElem? (i := 923) (by decide +kernel), List.mem_of_getElem? (i := 1161) (by decide +kernel), List.mem_of_getElem? (i := 1162) (by decide +kernel)⟩
theorem lw_p51 : lw_okq (⟨"StrawButtsModel", "wordHere", "()I"⟩, 39) := ⟨⟨by decide +kernel, by decide +kernel⟩, List.mem_of_getElem? (i := 923) (by decide +kernel), List.mem_of_getElem? (i := 1165) (by decide +kernel), List.mem_of_getElem? (i := 1166) (by decide +kernel)⟩
theorem lw_p52 : lw_okq (⟨"StrawButtsModel", "takesWord", "(J)Z"⟩, 39) := ⟨⟨by decide +kernel, by decide +kernel⟩, List.mem_of_getElem? (i := 923) (by decide +kernel), List.mem_of_getElem? (i := 1180) (by decide +kernel), List.mem_of_getElem? (i := 1181) (by decide +kernel)⟩
theorem lw_p53 : lw_okq (⟨"StrawButtsModel", "tested", "()Z"⟩, 39) := ⟨⟨by decide +kernel, by decide +kernel⟩, List.mem_of_getElem? (i := 923) (by decide +kernel), List.mem_of_getElem? (i := 1184) (by decide +kernel), List.mem_of_getElem? (i := 1185) (by decide +kernel)⟩
theorem lw_p54 : lw_okq (⟨"StrawButtsModel", "fact", "()Z"⟩, 39) := ⟨⟨by decide +kernel, by decide +kernel⟩, List.mem_of_getElem? (i := 923) (by decide +kernel), List.mem_of_getElem? (i := 1188) (by decide +kernel), List.mem_of_getElem? (i := 1189) (by decide +kernel)⟩
theorem lw_p55 : lw_okq (⟨"StrawButtsModel", "opens", "(I)Z"⟩, 39) := ⟨⟨by decide +kernel, by decide +kernel⟩, List.mem_of_getElem? (i := 923) (by decide +kernel), List.mem_of_getElem? (i := 1193) (by decide +kernel), List.mem_of_getElem? (i := 1194) (by decide +kernel)⟩
theorem lw_p56 : lw_okq (⟨"StrawButtsModel", "compare", "()Z"⟩, 39) := ⟨⟨by decide +kernel, by decide +kernel⟩, List.mem_of_getElem? (i := 923) (by decide +kernel), List.mem_of_getElem? (i := 1197) (by decide +kernel), List.mem_of_getElem? (i := 1198) (by decide +kernel)⟩
theorem lw_p57 : lw_okq (⟨"StrawButtsModel", "closes", "()V"⟩, 39) := ⟨⟨by decide +kernel, by decide +kernel⟩, List.mem_of_getElem? (i := 923) (by decide +kernel), List.mem_of_getElem? (i := 1201) (by decide +kernel), List.mem_of_getElem? (i := 1202) (by decide +kernel)⟩
theorem lw_p58 : lw_okq (⟨"StrawButtsModel", "layDown", "(I)V"⟩, 39) := ⟨⟨by decide +kernel, by decide +kernel⟩, List.mem_of_getElem? (i := 923) (by decide +kernel), List.mem_of_getElem? (i := 1205) (by decide +kernel), List.mem_of_getElem? (i := 1206) (by decide +kernel)⟩
theorem lw_p59 : lw_okq (⟨"StrawButtsModel", "isInside", "()Z"⟩, 39) := ⟨⟨by decide +kernel, by decide +kernel⟩, List.mem_of_getElem? (i := 923) (by decide +kernel), List.mem_of_getElem? (i := 1212) (by decide +kernel), List.mem_of_getElem? (i := 1213) (by decide +kernel)⟩
theorem lw_p60 : lw_okq (⟨"StrawButtsModel", "begins", "()V"⟩, 39) := ⟨⟨by decide +kernel, by decide +kernel⟩, List.mem_of_getElem? (i := 923) (by decide +kernel), List.mem_of_getElem? (i := 1222) (by decide +kernel), List.mem_of_getElem? (i := 1223) (by decide +kernel)⟩
theorem lw_p61 : lw_okq (⟨"StrawButtsModel", "isRule", "(I)Z"⟩, 39) := ⟨⟨by decide +kernel, by decide +kernel⟩, List.mem_of_getElem? (i := 923) (by decide +kernel), List.mem_of_getElem? (i := 1230) (by decide +kernel), List.mem_of_getElem? (i := 1231) (by decide +kernel)⟩
theorem lw_p62 : lw_okq (⟨"StrawButtsModel", "isRing", "(I)Z"⟩, 39) := ⟨⟨by decide +kernel, by decide +kernel⟩, List.mem_of_getElem? (i := 923) (by decide +kernel), List.mem_of_getElem? (i := 1238) (by decide +kernel), List.mem_of_getElem? (i := 1239) (by decide +kernel)⟩
theorem lw_p63 : lw_okq (⟨"StrawButtsModel", "isArcher", "(I)Z"⟩, 39) := ⟨⟨by decide +kernel, by decide +kernel⟩, List.mem_of_getElem? (i := 923) (by decide +kernel), List.mem_of_getElem? (i := 1247) (by decide +kernel), List.mem_of_getElem? (i := 1248) (by decide +kernel)⟩
def lw_privs_4 : List (MethodName × Nat) := [(⟨"StrawButtsModel", "value", "()Z"⟩, 39), (⟨"StrawButtsModel", "makes", "(I)Z"⟩, 39), (⟨"StrawButtsModel", "puts", "(II)V"⟩, 39), (⟨"StrawButtsModel", "wordHere", "()I"⟩, 39), (⟨"StrawButtsModel", "takesWord", "(J)Z"⟩, 39), (⟨"StrawButtsModel", "tested", "()Z"⟩, 39), (⟨"StrawButtsModel", "fact", "()Z"⟩, 39), (⟨"StrawButtsModel", "opens", "(I)Z"⟩, 39), (⟨"StrawButtsModel", "compare", "()Z"⟩, 39), (⟨"StrawButtsModel", "closes", "()V"⟩, 39), (⟨"StrawButtsModel", "layDown", "(I)V"⟩, 39), (⟨"StrawButtsModel", "isInside", "()Z"⟩, 39), (⟨"StrawButtsModel", "begins", "()V"⟩, 39), (⟨"StrawButtsModel", "isRule", "(I)Z"⟩, 39), (⟨"StrawButtsModel", "isRing", "(I)Z"⟩, 39), (⟨"StrawButtsModel", "isArcher", "(I)Z"⟩, 39)]
theorem lw_r4 : ∀ q ∈ lw_privs_4, lw_okq q := List.forall_mem_cons.mpr ⟨lw_p48, List.forall_mem_cons.mpr ⟨lw_p49, List.forall_mem_cons.mpr ⟨lw_p50, List.forall_mem_cons.mpr ⟨lw_p51, List.forall_mem_cons.mpr ⟨lw_p52, List.forall_mem_cons.mpr ⟨lw_p53, List.forall_mem_cons.mpr ⟨lw_p54, List.forall_mem_cons.mpr ⟨lw_p55, List.forall_mem_cons.mpr ⟨lw_p56, List.forall_mem_cons.mpr ⟨lw_p57, List.forall_mem_cons.mpr ⟨lw_p58, List.forall_mem_cons.mpr ⟨lw_p59, List.forall_mem_cons.mpr ⟨lw_p60, List.forall_mem_cons.mpr ⟨lw_p61, List.forall_mem_cons.mpr ⟨lw_p62, List.forall_mem_cons.mpr ⟨lw_p63, fun _ h => absurd h List.not_mem_nil⟩⟩⟩⟩⟩⟩⟩⟩⟩⟩⟩⟩⟩⟩⟩⟩
theorem lw_p64 : lw_okq (⟨"StrawButtsModel", "skillOf", "(I)I"⟩, 39) := ⟨⟨by decide +kernel, by decide +kernel⟩, List.mem_of_getElem? (i := 923) (by decide +kernel), List.mem_of_getElem? (i := 1251) (by decide +kernel), List.mem_of_getElem? (i := 1252) (by decide +kernel)⟩
theorem lw_p65 : lw_okq (⟨"StrawButtsModel", "illOf", "(I)I"⟩, 39) := ⟨⟨by decide +kernel, by decide +kernel⟩, List.mem_of_getElem? (i := 923) (by decide +kernel), List.mem_of_getElem? (i := 1255) (by decide +kernel), List.mem_of_getElem? (i := 1256) (by decide +kernel)⟩
theorem lw_p66 : lw_okq (⟨"StrawButtsModel", "arrowsOf", "(I)I"⟩, 39) := ⟨⟨by decide +kernel, by decide +kernel⟩, List.mem_of_getElem? (i := 923) (by decide +kernel), List.mem_of_getElem? (i := 1259) (by decide +kernel), List.mem_of_getElem? (i := 1260) (by decide +kernel)⟩
theorem lw_p67 : lw_okq (⟨"StrawButtsModel", "comingRound", "()I"⟩, 39) := ⟨⟨by decide +kernel, by decide +kernel⟩, List.mem_of_getElem? (i := 923) (by decide +kernel), List.mem_of_getElem? (i := 1267) (by decide +kernel), List.mem_of_getElem? (i := 1268) (by decide +kernel)⟩
theorem lw_p68 : lw_okq (⟨"StrawButtsModel", "isGreen", "()Z"⟩, 39) := ⟨⟨by decide +kernel, by decide +kernel⟩, List.mem_of_getElem? (i := 923) (by decide +kernel), List.mem_of_getElem? (i := 1271) (by decide +kernel), List.mem_of_getElem? (i := 1272) (by decide +kernel)⟩
theorem lw_p69 : lw_okq (⟨"StrawButtsModel", "windOn", "(I)I"⟩, 39) := ⟨⟨by decide +kernel, by decide +kernel⟩, List.mem_of_getElem? (i := 923) (by decide +kernel), List.mem_of_getElem? (i := 1275) (by decide +kernel), List.mem_of_getElem? (i := 1276) (by decide +kernel)⟩
theorem lw_p70 : lw_okq (⟨"StrawButtsModel", "keepsAct", "()V"⟩, 39) := ⟨⟨by decide +kernel, by decide +kernel⟩, List.mem_of_getElem? (i := 923) (by decide +kernel), List.mem_of_getElem? (i := 1287) (by decide +kernel), List.mem_of_getElem? (i := 1288) (by decide +kernel)⟩
theorem lw_p71 : lw_okq (⟨"StrawButtsModel", "passes", "()I"⟩, 39) := ⟨⟨by decide +kernel, by decide +kernel⟩, List.mem_of_getElem? (i := 923) (by decide +kernel), List.mem_of_getElem? (i := 1291) (by decide +kernel), List.mem_of_getElem? (i := 1292) (by decide +kernel)⟩
theorem lw_p72 : lw_okq (⟨"StrawButtsModel", "turnOf", "(I)Z"⟩, 39) := ⟨⟨by decide +kernel, by decide +kernel⟩, List.mem_of_getElem? (i := 923) (by decide +kernel), List.mem_of_getElem? (i := 1295) (by decide +kernel), List.mem_of_getElem? (i := 1296) (by decide +kernel)⟩
theorem lw_p73 : lw_okq (⟨"StrawButtsModel", "choice", "(I)I"⟩, 39) := ⟨⟨by decide +kernel, by decide +kernel⟩, List.mem_of_getElem? (i := 923) (by decide +kernel), List.mem_of_getElem? (i := 1299) (by decide +kernel), List.mem_of_getElem? (i := 1300) (by decide +kernel)⟩
theorem lw_p74 : lw_okq (⟨"StrawButtsModel", "sumOf", "(II)J"⟩, 39) := ⟨⟨by decide +kernel, by decide +kernel⟩, List.mem_of_getElem? (i := 923) (by decide +kernel), List.mem_of_getElem? (i := 1303) (by decide +kernel), List.mem_of_getElem? (i := 1304) (by decide +kernel)⟩
theorem lw_p75 : lw_okq (⟨"StrawButtsModel", "windNow", "()I"⟩, 39) := ⟨⟨by decide +kernel, by decide +kernel⟩, List.mem_of_getElem? (i := 923) (by decide +kernel), List.mem_of_getElem? (i := 1307) (by decide +kernel), List.mem_of_getElem? (i := 1308) (by decide +kernel)⟩
theorem lw_p76 : lw_okq (⟨"StrawButtsModel", "driftOf", "(I)I"⟩, 39) := ⟨⟨by decide +kernel, by decide +kernel⟩, List.mem_of_getElem? (i := 923) (by decide +kernel), List.mem_of_getElem? (i := 1311) (by decide +kernel), List.mem_of_getElem? (i := 1312) (by decide +kernel)⟩
theorem lw_p77 : lw_okq (⟨"StrawButtsModel", "summedBy", "(I)J"⟩, 39) := ⟨⟨by decide +kernel, by decide +kernel⟩, List.mem_of_getElem? (i := 923) (by decide +kernel), List.mem_of_getElem? (i := 1315) (by decide +kernel), List.mem_of_getElem? (i := 1316) (by decide +kernel)⟩
theorem lw_p78 : lw_okq (⟨"StrawButtsModel", "reckons", "(III)J"⟩, 39) := ⟨⟨by decide +kernel, by decide +kernel⟩, List.mem_of_getElem? (i := 923) (by decide +kernel), List.mem_of_getElem? (i := 1319) (by decide +kernel), List.mem_of_getElem? (i := 1320) (by decide +kernel)⟩
theorem lw_p79 : lw_okq (⟨"StrawButtsModel", "push", "(J)V"⟩, 39) := ⟨⟨by decide +kernel, by decide +kernel⟩, List.mem_of_getElem? (i := 923) (by decide +kernel), List.mem_of_getElem? (i := 1323) (by decide +kernel), List.mem_of_getElem? (i := 1324) (by decide +kernel)⟩
def lw_privs_5 : List (MethodName × Nat) := [(⟨"StrawButtsModel", "skillOf", "(I)I"⟩, 39), (⟨"StrawButtsModel", "illOf", "(I)I"⟩, 39), (⟨"StrawButtsModel", "arrowsOf", "(I)I"⟩, 39), (⟨"StrawButtsModel", "comingRound", "()I"⟩, 39), (⟨"StrawButtsModel", "isGreen", "()Z"⟩, 39), (⟨"StrawButtsModel", "windOn", "(I)I"⟩, 39), (⟨"StrawButtsModel", "keepsAct", "()V"⟩, 39), (⟨"StrawButtsModel", "passes", "()I"⟩, 39), (⟨"StrawButtsModel", "turnOf", "(I)Z"⟩, 39), (⟨"StrawButtsModel", "choice", "(I)I"⟩, 39), (⟨"StrawButtsModel", "sumOf", "(II)J"⟩, 39), (⟨"StrawButtsModel", "windNow", "()I"⟩, 39), (⟨"StrawButtsModel", "driftOf", "(I)I"⟩, 39), (⟨"StrawButtsModel", "summedBy", "(I)J"⟩, 39), (⟨"StrawButtsModel", "reckons", "(III)J"⟩, 39), (⟨"StrawButtsModel", "push", "(J)V"⟩, 39)]
theorem lw_r5 : ∀ q ∈ lw_privs_5, lw_okq q := List.forall_mem_cons.mpr ⟨lw_p64, List.forall_mem_cons.mpr ⟨lw_p65, List.forall_mem_cons.mpr ⟨lw_p66, List.forall_mem_cons.mpr ⟨lw_p67, List.forall_mem_cons.mpr ⟨lw_p68, List.forall_mem_cons.mpr ⟨lw_p69, List.forall_mem_cons.mpr ⟨lw_p70, List.forall_mem_cons.mpr ⟨lw_p71, List.forall_mem_cons.mpr ⟨lw_p72, List.forall_mem_cons.mpr ⟨lw_p73, List.forall_mem_cons.mpr ⟨lw_p74, List.forall_mem_cons.mpr ⟨lw_p75, List.forall_mem_cons.mpr ⟨lw_p76, List.forall_mem_cons.mpr ⟨lw_p77, List.forall_mem_cons.mpr ⟨lw_p78, List.forall_mem_cons.mpr ⟨lw_p79, fun _ h => absurd h List.not_mem_nil⟩⟩⟩⟩⟩⟩⟩⟩⟩⟩⟩⟩⟩⟩⟩⟩
theorem lw_p80 : lw_okq (⟨"StrawButtsModel", "pop", "()J"⟩, 39) := ⟨⟨by decide +kernel, by decide +kernel⟩, List.mem_of_getElem? (i := 923) (by decide +kernel), List.mem_of_getElem? (i := 1327) (by decide +kernel), List.mem_of_getElem? (i := 1328) (by decide +kernel)⟩
theorem lw_p81 : lw_okq (⟨"StrawButtsModel", "shoots", "(II)I"⟩, 39) := ⟨⟨by decide +kernel, by decide +kernel⟩, List.mem_of_getElem? (i := 923) (by decide +kernel), List.mem_of_getElem? (i := 1334) (by decide +kernel), List.mem_of_getElem? (i := 1335) (by decide +kernel)⟩
theorem lw_p82 : lw_okq (⟨"StrawButtsModel", "downOf", "(II)I"⟩, 39) := ⟨⟨by decide +kernel, by decide +kernel⟩, List.mem_of_getElem? (i := 923) (by decide +kernel), List.mem_of_getElem? (i := 1338) (by decide +kernel), List.mem_of_getElem? (i := 1339) (by decide +kernel)⟩
theorem lw_p83 : lw_okq (⟨"StrawButtsModel", "ringAt", "(I)I"⟩, 39) := ⟨⟨by decide +kernel, by decide +kernel⟩, List.mem_of_getElem? (i := 923) (by decide +kernel), List.mem_of_getElem? (i := 1342) (by decide +kernel), List.mem_of_getElem? (i := 1343) (by decide +kernel)⟩
theorem lw_p84 : lw_okq (⟨"StrawButtsModel", "eases1", "(I)V"⟩, 39) := ⟨⟨by decide +kernel, by decide +kernel⟩, List.mem_of_getElem? (i := 923) (by decide +kernel), List.mem_of_getElem? (i := 1346) (by decide +kernel), List.mem_of_getElem? (i := 1347) (by decide +kernel)⟩
theorem lw_p85 : lw_okq (⟨"StrawButtsModel", "keeps", "()V"⟩, 39) := ⟨⟨by decide +kernel, by decide +kernel⟩, List.mem_of_getElem? (i := 923) (by decide +kernel), List.mem_of_getElem? (i := 1373) (by decide +kernel), List.mem_of_getElem? (i := 1374) (by decide +kernel)⟩
theorem lw_p86 : lw_okq (⟨"StrawButtsModel", "passesAll", "(I)V"⟩, 39) := ⟨⟨by decide +kernel, by decide +kernel⟩, List.mem_of_getElem? (i := 923) (by decide +kernel), List.mem_of_getElem? (i := 1377) (by decide +kernel), List.mem_of_getElem? (i := 1378) (by decide +kernel)⟩
theorem lw_p87 : lw_okq (⟨"StrawButtsModel", "laysBack", "()V"⟩, 39) := ⟨⟨by decide +kernel, by decide +kernel⟩, List.mem_of_getElem? (i := 923) (by decide +kernel), List.mem_of_getElem? (i := 1381) (by decide +kernel), List.mem_of_getElem? (i := 1382) (by decide +kernel)⟩
theorem lw_p88 : lw_okq (⟨"StrawButtsModel", "easedIn", "(I)I"⟩, 39) := ⟨⟨by decide +kernel, by decide +kernel⟩, List.mem_of_getElem? (i := 923) (by decide +kernel), List.mem_of_getElem? (i := 1389) (by decide +kernel), List.mem_of_getElem? (i := 1390) (by decide +kernel)⟩
theorem lw_p89 : lw_okq (⟨"StrawButtsModel", "sumOver", "(I)I"⟩, 39) := ⟨⟨by decide +kernel, by decide +kernel⟩, List.mem_of_getElem? (i := 923) (by decide +kernel), List.mem_of_getElem? (i := 1393) (by decide +kernel), List.mem_of_getElem? (i := 1394) (by decide +kernel)⟩
theorem lw_p90 : lw_okq (⟨"StrawButtsModel", "easeBy", "(II)I"⟩, 39) := ⟨⟨by decide +kernel, by decide +kernel⟩, List.mem_of_getElem? (i := 923) (by decide +kernel), List.mem_of_getElem? (i := 1409) (by decide +kernel), List.mem_of_getElem? (i := 1410) (by decide +kernel)⟩
theorem lw_p91 : lw_okq (⟨"StrawButtsModel", "findsRow", "(II)I"⟩, 39) := ⟨⟨by decide +kernel, by decide +kernel⟩, List.mem_of_getElem? (i := 923) (by decide +kernel), List.mem_of_getElem? (i := 1418) (by decide +kernel), List.mem_of_getElem? (i := 1419) (by decide +kernel)⟩
theorem lw_p92 : lw_okq (⟨"StrawButtsModel", "arrowsIn", "(I)I"⟩, 39) := ⟨⟨by decide +kernel, by decide +kernel⟩, List.mem_of_getElem? (i := 923) (by decide +kernel), List.mem_of_getElem? (i := 1422) (by decide +kernel), List.mem_of_getElem? (i := 1423) (by decide +kernel)⟩
theorem lw_p93 : lw_okq (⟨"StrawButtsModel", "easeByRow", "(II)I"⟩, 39) := ⟨⟨by decide +kernel, by decide +kernel⟩, List.mem_of_getElem? (i := 923) (by decide +kernel), List.mem_of_getElem? (i := 1426) (by decide +kernel), List.mem_of_getElem? (i := 1427) (by decide +kernel)⟩
theorem lw_p94 : lw_okq (⟨"StrawButtsModel", "nextRow", "(I)Z"⟩, 39) := ⟨⟨by decide +kernel, by decide +kernel⟩, List.mem_of_getElem? (i := 923) (by decide +kernel), List.mem_of_getElem? (i := 1430) (by decide +kernel), List.mem_of_getElem? (i := 1431) (by decide +kernel)⟩
theorem lw_p95 : lw_okq (⟨"StrawButtsModel", "easeIn", "(I)I"⟩, 39) := ⟨⟨by decide +kernel, by decide +kernel⟩, List.mem_of_getElem? (i := 923) (by decide +kernel), List.mem_of_getElem? (i := 1447) (by decide +kernel), List.mem_of_getElem? (i := 1448) (by decide +kernel)⟩
def lw_privs_6 : List (MethodName × Nat) := [(⟨"StrawButtsModel", "pop", "()J"⟩, 39), (⟨"StrawButtsModel", "shoots", "(II)I"⟩, 39), (⟨"StrawButtsModel", "downOf", "(II)I"⟩, 39), (⟨"StrawButtsModel", "ringAt", "(I)I"⟩, 39), (⟨"StrawButtsModel", "eases1", "(I)V"⟩, 39), (⟨"StrawButtsModel", "keeps", "()V"⟩, 39), (⟨"StrawButtsModel", "passesAll", "(I)V"⟩, 39), (⟨"StrawButtsModel", "laysBack", "()V"⟩, 39), (⟨"StrawButtsModel", "easedIn", "(I)I"⟩, 39), (⟨"StrawButtsModel", "sumOver", "(I)I"⟩, 39), (⟨"StrawButtsModel", "easeBy", "(II)I"⟩, 39), (⟨"StrawButtsModel", "findsRow", "(II)I"⟩, 39), (⟨"StrawButtsModel", "arrowsIn", "(I)I"⟩, 39), (⟨"StrawButtsModel", "easeByRow", "(II)I"⟩, 39), (⟨"StrawButtsModel", "nextRow", "(I)Z"⟩, 39), (⟨"StrawButtsModel", "easeIn", "(I)I"⟩, 39)]
theorem lw_r6 : ∀ q ∈ lw_privs_6, lw_okq q := List.forall_mem_cons.mpr ⟨lw_p80, List.forall_mem_cons.mpr ⟨lw_p81, List.forall_mem_cons.mpr ⟨lw_p82, List.forall_mem_cons.mpr ⟨lw_p83, List.forall_mem_cons.mpr ⟨lw_p84, List.forall_mem_cons.mpr ⟨lw_p85, List.forall_mem_cons.mpr ⟨lw_p86, List.forall_mem_cons.mpr ⟨lw_p87, List.forall_mem_cons.mpr ⟨lw_p88, List.forall_mem_cons.mpr ⟨lw_p89, List.forall_mem_cons.mpr ⟨lw_p90, List.forall_mem_cons.mpr ⟨lw_p91, List.forall_mem_cons.mpr ⟨lw_p92, List.forall_mem_cons.mpr ⟨lw_p93, List.forall_mem_cons.mpr ⟨lw_p94, List.forall_mem_cons.mpr ⟨lw_p95, fun _ h => absurd h List.not_mem_nil⟩⟩⟩⟩⟩⟩⟩⟩⟩⟩⟩⟩⟩⟩⟩⟩
theorem lw_p96 : lw_okq (⟨"StrawButtsModel", "givesAll", "(I)V"⟩, 39) := ⟨⟨by decide +kernel, by decide +kernel⟩, List.mem_of_getElem? (i := 923) (by decide +kernel), List.mem_of_getElem? (i := 1455) (by decide +kernel), List.mem_of_getElem? (i := 1456) (by decide +kernel)⟩
theorem lw_p97 : lw_okq (⟨"StrawButtsModel", "fillsRest", "(IIIII)V"⟩, 39) := ⟨⟨by decide +kernel, by decide +kernel⟩, List.mem_of_getElem? (i := 923) (by decide +kernel), List.mem_of_getElem? (i := 1463) (by decide +kernel), List.mem_of_getElem? (i := 1464) (by decide +kernel)⟩
theorem lw_p98 : lw_okq (⟨"StrawButtsModel", "hasThen", "(II)I"⟩, 39) := ⟨⟨by decide +kernel, by decide +kernel⟩, List.mem_of_getElem? (i := 923) (by decide +kernel), List.mem_of_getElem? (i := 1467) (by decide +kernel), List.mem_of_getElem? (i := 1468) (by decide +kernel)⟩
theorem lw_p99 : lw_okq (⟨"StrawButtsModel", "isRest", "(II)Z"⟩, 39) := ⟨⟨by decide +kernel, by decide +kernel⟩, List.mem_of_getElem? (i := 923) (by decide +kernel), List.mem_of_getElem? (i := 1471) (by decide +kernel), List.mem_of_getElem? (i := 1472) (by decide +kernel)⟩
theorem lw_p100 : lw_okq (⟨"StrawButtsModel", "fillsFits", "(I)V"⟩, 39) := ⟨⟨by decide +kernel, by decide +kernel⟩, List.mem_of_getElem? (i := 923) (by decide +kernel), List.mem_of_getElem? (i := 1489) (by decide +kernel), List.mem_of_getElem? (i := 1490) (by decide +kernel)⟩
theorem lw_p101 : lw_okq (⟨"StrawButtsModel", "areAllSo", "(II)Z"⟩, 39) := ⟨⟨by decide +kernel, by decide +kernel⟩, List.mem_of_getElem? (i := 923) (by decide +kernel), List.mem_of_getElem? (i := 1493) (by decide +kernel), List.mem_of_getElem? (i := 1494) (by decide +kernel)⟩
theorem lw_p102 : lw_okq (⟨"StrawButtsModel", "areNotesSo", "(I)Z"⟩, 39) := ⟨⟨by decide +kernel, by decide +kernel⟩, List.mem_of_getElem? (i := 923) (by decide +kernel), List.mem_of_getElem? (i := 1497) (by decide +kernel), List.mem_of_getElem? (i := 1498) (by decide +kernel)⟩
theorem lw_p103 : lw_okq (⟨"StrawButtsModel", "alikeAt", "(I)I"⟩, 39) := ⟨⟨by decide +kernel, by decide +kernel⟩, List.mem_of_getElem? (i := 923) (by decide +kernel), List.mem_of_getElem? (i := 1505) (by decide +kernel), List.mem_of_getElem? (i := 1506) (by decide +kernel)⟩
theorem lw_p104 : lw_okq (⟨"StrawButtsModel", "canBe", "(III)I"⟩, 39) := ⟨⟨by decide +kernel, by decide +kernel⟩, List.mem_of_getElem? (i := 923) (by decide +kernel), List.mem_of_getElem? (i := 1513) (by decide +kernel), List.mem_of_getElem? (i := 1514) (by decide +kernel)⟩
theorem lw_p105 : lw_okq (⟨"StrawButtsModel", "draw", "(I)I"⟩, 39) := ⟨⟨by decide +kernel, by decide +kernel⟩, List.mem_of_getElem? (i := 923) (by decide +kernel), List.mem_of_getElem? (i := 1530) (by decide +kernel), List.mem_of_getElem? (i := 1531) (by decide +kernel)⟩
def lw_privs_7 : List (MethodName × Nat) := [(⟨"StrawButtsModel", "givesAll", "(I)V"⟩, 39), (⟨"StrawButtsModel", "fillsRest", "(IIIII)V"⟩, 39), (⟨"StrawButtsModel", "hasThen", "(II)I"⟩, 39), (⟨"StrawButtsModel", "isRest", "(II)Z"⟩, 39), (⟨"StrawButtsModel", "fillsFits", "(I)V"⟩, 39), (⟨"StrawButtsModel", "areAllSo", "(II)Z"⟩, 39), (⟨"StrawButtsModel", "areNotesSo", "(I)Z"⟩, 39), (⟨"StrawButtsModel", "alikeAt", "(I)I"⟩, 39), (⟨"StrawButtsModel", "canBe", "(III)I"⟩, 39), (⟨"StrawButtsModel", "draw", "(I)I"⟩, 39)]
theorem lw_r7 : ∀ q ∈ lw_privs_7, lw_okq q := List.forall_mem_cons.mpr ⟨lw_p96, List.forall_mem_cons.mpr ⟨lw_p97, List.forall_mem_cons.mpr ⟨lw_p98, List.forall_mem_cons.mpr ⟨lw_p99, List.forall_mem_cons.mpr ⟨lw_p100, List.forall_mem_cons.mpr ⟨lw_p101, List.forall_mem_cons.mpr ⟨lw_p102, List.forall_mem_cons.mpr ⟨lw_p103, List.forall_mem_cons.mpr ⟨lw_p104, List.forall_mem_cons.mpr ⟨lw_p105, fun _ h => absurd h List.not_mem_nil⟩⟩⟩⟩⟩⟩⟩⟩⟩⟩
def lw_privs : List (MethodName × Nat) := lw_privs_1 ++ (lw_privs_2 ++ (lw_privs_3 ++ (lw_privs_4 ++ (lw_privs_5 ++ (lw_privs_6 ++ (lw_privs_7))))))
def lw_tbl : List Cond := k2_sels lw_privs ++ tables_1
theorem lw_privs_ok : ∀ q ∈ lw_privs, lw_okq q := by
  show ∀ q ∈ lw_privs_1 ++ (lw_privs_2 ++ (lw_privs_3 ++ (lw_privs_4 ++ (lw_privs_5 ++ (lw_privs_6 ++ (lw_privs_7)))))), lw_okq q
  exact List.forall_mem_append.mpr ⟨lw_r1, List.forall_mem_append.mpr ⟨lw_r2, List.forall_mem_append.mpr ⟨lw_r3, List.forall_mem_append.mpr ⟨lw_r4, List.forall_mem_append.mpr ⟨lw_r5, List.forall_mem_append.mpr ⟨lw_r6, lw_r7⟩⟩⟩⟩⟩⟩
-- ===== end of PART A; then your names; then what follows =====
end
section
/-! ===== BEGIN words of one list among another's, by their places ===== -/
theorem goodIn_r {big : List Cond} (ws : List Cond) (ps : List Nat) (hp : ws = ps.filterMap (fun i => big[i]?)) (h : ws.all goodWord = true) : GoodIn big ws := by
  intro w hw
  have h1 := List.all_eq_true.mp h w hw
  rw [hp] at hw
  obtain ⟨i, -, hi⟩ := List.mem_filterMap.mp hw
  have hm : w ∈ big := by first | exact List.mem_of_getElem? hi | exact List.getElem?_mem hi
  exact ⟨hm, good_of_word h1⟩
theorem goodIn_app {big a b : List Cond} (ha : GoodIn big a) (hb : GoodIn big b) : GoodIn big (a ++ b) := fun w h => (List.mem_append.mp h).elim (ha w) (hb w)
theorem goodIn_ca {big a b : List Cond} {c : Cond} (ha : GoodIn big (c :: a)) (hb : GoodIn big b) : GoodIn big (c :: (a ++ b)) := fun w h => (List.mem_cons.mp h).elim (fun e => ha w (List.mem_cons.mpr (Or.inl e))) (fun h => (List.mem_append.mp h).elim (fun h => ha w (List.mem_cons.mpr (Or.inr h))) (hb w))
theorem goodIn_sub {big ws : List Cond} (hm : ∀ w ∈ ws, w ∈ big) (h : ws.all goodWord = true) : GoodIn big ws := fun w hw => ⟨hm w hw, good_of_word (List.all_eq_true.mp h w hw)⟩
/-! ===== END ===== -/

/-- an array of arrays can be made -/
def va_AOA (ty : FieldType) (U : State) : Prop := (Cond.arrayOver (.array ty)).before #[] U = true
theorem va_AOA.use {ty : FieldType} {A : Array Value} {U : State} (h : va_AOA ty U) : (Cond.arrayOver (.array ty)).before A U = true := h
theorem va_AOA.moved {ty : FieldType} {u U : State} (hvm : u.vm.Alike U.vm) (h : va_AOA ty u) : va_AOA ty U := arrayOver_alikeB hvm h
theorem va_AOA.of {ty : FieldType} {A : Array Value} {U : State} (h : (Cond.arrayOver (.array ty)).before A U = true) : va_AOA ty U := h
/-! ===== BEGIN new T[n][m]: the outer array a place, the inner ones among the pooled ===== -/
/-- f, but v at every address of l -/
def vr_up {α : Type} (f : Nat → α) (l : List Nat) (v : α) : Nat → α := fun a => if a ∈ l then v else f a
theorem vr_up_in {α : Type} {f : Nat → α} {l : List Nat} {v : α} {a : Nat} (h : a ∈ l) : vr_up f l v a = v := if_pos h
theorem vr_up_ne {α : Type} {f : Nat → α} {l : List Nat} {v : α} {a : Nat} (h : a ∉ l) : vr_up f l v a = f a := if_neg h
theorem vr_rows {L l : List Nat} {f : Nat → va_E} {e : va_E} (h : ∀ a, a ∈ l → a ∉ L) : va_pl L f ++ l.map (fun a => (a, e)) = va_pl (L ++ l) (vr_up f l e) := by
  unfold va_pl
  rw [List.map_append]
  congr 1
  · apply List.map_congr_left
    intro a ha
    rw [vr_up_ne (fun q => h a q ha)]
  · apply List.map_congr_left
    intro a ha
    rw [vr_up_in ha]
theorem vr_lay {X rows : va_W} {x : Nat × va_E} {pl : va_W} {D : va_G} {cl : List vw_C} {H : Heap} (hP : va_P D cl (((X ++ pl) ++ [x]) ++ rows) H) : va_P D cl ((X ++ [x]) ++ (pl ++ rows)) H := by
  rw [List.append_assoc (X ++ pl)] at hP
  have h := va_P.swap hP
  rw [← List.append_assoc X] at h
  have h2 := va_P.swap h
  rw [List.append_assoc (X ++ [x])] at h2
  exact h2
theorem vr_layD {X rows : va_W} {x : Nat × va_E} {pl : va_W} {A : Nat → Prop} (hD : va_D A (((X ++ pl) ++ [x]) ++ rows)) : va_D A ((X ++ [x]) ++ (pl ++ rows)) := by
  rw [List.append_assoc (X ++ pl)] at hD
  have h := va_D.swap hD
  rw [← List.append_assoc X] at h
  have h2 := va_D.swap h
  rw [List.append_assoc (X ++ [x])] at h2
  exact h2
theorem vr_outer (c : ClassId) (N h0 : Nat) : ∀ i : Nat, Jvm.Free.Multi.outerC c N h0 i = arrV c N (fun j => va_rf (if j < i then some (h0 + 1 + j) else none))
  | 0 => by
    show ({ cls := c, slots := Array.replicate N .null, vm := .none } : Cell) = _
    rw [arrV_new]
    refine congrArg (arrV c N) (funext fun j => ?_)
    simp [va_rf]
  | i + 1 => by
    show (Jvm.Free.Multi.outerC c N h0 i).setSlot i (.ref (h0 + 1 + i)) = _
    rw [vr_outer c N h0 i, arrV_store]
    refine congrArg (arrV c N) (funext fun j => ?_)
    by_cases e : j = i
    · subst e
      simp [updV, va_rf]
    · by_cases h : j < i
      · simp [updV, e, h, Nat.lt_succ_of_lt h]
      · simp [updV, e, h, show ¬ j < i + 1 by omega]
section VGM
variable {p : Program} {l : Launch} {e : Env} {R : Room} {s : State} {m : MethodId} {args : Array Value} {below : List Frame} {meth : Method} {c : Code} {H : Heap} {locs : List Loc} {cells slots : Nat} {Q : State → Prop}
variable {cc : ByteArray} {pc : Nat} {ls : Array Slot} {rest : List Value} {D : va_G} {cl : List vw_C} {A : Nat → Prop} {a : Nat} {tys : List (ClassId × FieldType)} {ws : va_W} {H0 : Heap}
theorem va_mna {X : va_W} {L : List Nat} {f : Nat → va_E} {cc : ByteArray} (hexec : p.tables.exec = Jvm.exec) (hb : c.code = cc) {own : String} {index : Nat} {ty : FieldType} {cy : ClassId} (hown : s.vm.findClass own = some m.cls) (hclink : (Cond.classLink own index ("[" ++ (FieldType.array ty).toString)).before args s = true) (hover : va_AOA ty s) (harr : (Cond.arrayClass ty).before args s = true) (hcy : s.vm.findClass (FieldType.array ty).toString = some cy)
    (hK : va_K D cl tys s) (hP : va_P D cl (X ++ va_pl L f) H) (hD : va_D A (X ++ va_pl L f)) (hS : va_S A H0 H locs) (hA : ∀ q, H0.size ≤ q → A q) {n k : Int32} {N' K' : Nat} {z : vp_A} (hn : ¬ n < 0) (hk : ¬ k < 0) (hN : n.toNatClampNeg = N') (hM : k.toNatClampNeg = K')
    (hb1 : N' * 4 ≤ 536870912) (hb2 : K' * componentBytes ty ≤ 536870912) (hb3 : K' ≤ 536870912) (hdf : fits ty (defaultValue ty) = true) (hdd : (defaultValue ty).isDefault = true) (hcells : cells + (1 + N') ≤ R.cells) (hslots : slots + (N' + N' * K') ≤ R.slots) (hz : ∀ c : ClassId, Jvm.Free.Multi.innerC c K' (defaultValue ty) = vp_cell c z) (hdg : decode cc pc = .ok (.multianewarray index 2, 4))
    (kk : ∀ (q : Nat) (r : Nat → Nat) (cA : ClassId) (H1 : Heap), (∀ i j : Nat, i < N' → j < N' → r i = r j → i = j) → (∀ i : Nat, i < N' → r i ∉ L) → va_K D cl (tys ++ [(cA, .array ty)]) s →
      va_P D cl ((X ++ [(q, .inl (cA, N', .inr (.inr (.inr (.inr (fun i => if i < N' then some (r i) else none))))))]) ++ va_pl (L ++ (List.range N').map r) (vr_up f ((List.range N').map r) (.inl (cy, z)))) H1 → va_D A ((X ++ [(q, .inl (cA, N', .inr (.inr (.inr (.inr (fun i => if i < N' then some (r i) else none))))))]) ++ va_pl (L ++ (List.range N').map r) (vr_up f ((List.range N').map r) (.inl (cy, z)))) → va_S A H0 H1 locs →
      W p l e R s m args below meth c H1 locs (cells + 1 + N') (slots + N' + N' * K') Q (F0 m (pc + 4) ls (.ref q :: rest))) : W p l e R s m args below meth c H locs cells slots Q (F0 m pc ls (.int k :: .int n :: rest)) := by
  subst hN
  subst hM
  intro T hT Xs
  obtain ⟨vm₁, cA, comp, -, fA, fC, hO, -, X', step⟩ := Xs.multianewarray2F hexec hown hclink (va_AOA.use hover) harr (g := F0 m pc ls (.int k :: .int n :: rest)) rfl (by rw [hb]; exact hdg) rfl hn hk hb1 hb2 hb3 hdf hdd hcells hslots
  have ec : some cy = some comp := hcy.symm.trans fC
  cases ec
  generalize hF : Jvm.Free.Multi.fill (T.setVm vm₁) cA cy n.toNatClampNeg k.toNatClampNeg (defaultValue ty) n.toNatClampNeg = F at X' step
  have hTh : (T.setVm vm₁).heap = H := hT
  obtain ⟨f1, f2, -, -⟩ := Jvm.Free.Multi.fill_facts (T.setVm vm₁) cA cy n.toNatClampNeg k.toNatClampNeg (defaultValue ty) n.toNatClampNeg
  rw [hF, hTh] at f1 f2
  have hold : ∀ x : Nat, x < H.size → F.heap[x]? = H[x]? := fun x hx => by
    have := Jvm.Free.Multi.fill_old (T.setVm vm₁) cA cy n.toNatClampNeg k.toNatClampNeg (defaultValue ty) (a := x) (by rw [hTh]; exact hx) n.toNatClampNeg
    rw [hF, hTh] at this
    exact this
  have hrow : ∀ j : Nat, j < n.toNatClampNeg → F.heap[H.size + 1 + j]? = some (vp_cell cy z) := fun j hj => by
    have := Jvm.Free.Multi.fill_inner (T.setVm vm₁) cA cy n.toNatClampNeg k.toNatClampNeg (defaultValue ty) n.toNatClampNeg j hj
    rw [hF, hTh, hz] at this
    exact this
  have hout : Jvm.Free.Multi.outerC cA n.toNatClampNeg H.size n.toNatClampNeg = vp_cell cA (n.toNatClampNeg, .inr (.inr (.inr (.inr (fun i => if i < n.toNatClampNeg then some (H.size + 1 + i) else none))))) := by
    rw [vp_cell_q]
    exact vr_outer cA n.toNatClampNeg H.size n.toNatClampNeg
  rw [hout] at f2
  have hlt : ∀ a, a ∈ L → a < H.size := fun a ha => by
    obtain ⟨k9, hk9⟩ := va_pl_get (X := X) (f := f) ha
    exact (hP k9 _ hk9).lt
  have hnl : ∀ i : Nat, i < n.toNatClampNeg → H.size + 1 + i ∉ L := fun i _ h => by
    have := hlt _ h
    omega
  have hnm : ∀ a, a ∈ (List.range n.toNatClampNeg).map (fun i => H.size + 1 + i) → a ∉ L := fun a ha h => by
    obtain ⟨i, -, rfl⟩ := List.mem_map.mp ha
    have := hlt _ h
    omega
  have hP0 : va_P D cl (X ++ va_pl L f) F.heap := hP.kept (fun k9 x hx => hold x.1 ((hP k9 x hx).lt))
  have hP1 : va_P D cl ((X ++ va_pl L f) ++ [(H.size, .inl (cA, n.toNatClampNeg, .inr (.inr (.inr (.inr (fun i => if i < n.toNatClampNeg then some (H.size + 1 + i) else none))))))]) F.heap := hP0.app (fun k9 x hx => by
    have h0 : k9 < 1 := (List.getElem?_eq_some_iff.mp hx).1
    rw [show k9 = 0 by omega] at hx
    cases hx
    exact f2)
  have hP2 : va_P D cl (((X ++ va_pl L f) ++ [(H.size, .inl (cA, n.toNatClampNeg, .inr (.inr (.inr (.inr (fun i => if i < n.toNatClampNeg then some (H.size + 1 + i) else none))))))]) ++ ((List.range n.toNatClampNeg).map (fun i => H.size + 1 + i)).map (fun a => (a, .inl (cy, z)))) F.heap := hP1.app (fun k9 x hx => by
    obtain ⟨a, ha, rfl⟩ := List.mem_map.mp (List.mem_of_getElem? hx)
    obtain ⟨i, hi, rfl⟩ := List.mem_map.mp ha
    exact hrow i (List.mem_range.mp hi))
  have hD2 : va_D A (((X ++ va_pl L f) ++ [(H.size, .inl (cA, n.toNatClampNeg, .inr (.inr (.inr (.inr (fun i => if i < n.toNatClampNeg then some (H.size + 1 + i) else none))))))]) ++ ((List.range n.toNatClampNeg).map (fun i => H.size + 1 + i)).map (fun a => (a, .inl (cy, z)))) := by
    have hD1 := hD.push (e := .inl (cA, n.toNatClampNeg, .inr (.inr (.inr (.inr (fun i => if i < n.toNatClampNeg then some (H.size + 1 + i) else none)))))) hP rfl (hA _ hS.1)
    generalize hW1 : (X ++ va_pl L f) ++ [(H.size, .inl (cA, n.toNatClampNeg, .inr (.inr (.inr (.inr (fun i => if i < n.toNatClampNeg then some (H.size + 1 + i) else none))))))] = W1 at hD1 hP1 ⊢
    have hle : ∀ (k9 : Nat) (x : Nat × va_E), W1[k9]? = some x → x.1 ≤ H.size := fun k9 x hx => by
      rw [← hW1] at hx
      by_cases hl : k9 < (X ++ va_pl L f).length
      · rw [List.getElem?_append_left hl] at hx
        exact Nat.le_of_lt ((hP k9 x hx).lt)
      · rw [List.getElem?_append_right (by omega)] at hx
        have h0 : k9 - (X ++ va_pl L f).length < 1 := (List.getElem?_eq_some_iff.mp hx).1
        rw [show k9 - (X ++ va_pl L f).length = 0 by omega] at hx
        cases hx
        exact Nat.le_refl _
    have hr : ∀ (k9 : Nat) (x : Nat × va_E), (((List.range n.toNatClampNeg).map (fun i => H.size + 1 + i)).map (fun a => ((a, .inl (cy, z)) : Nat × va_E)))[k9]? = some x → x.1 = H.size + 1 + k9 := fun k9 x hx => by
      rw [List.getElem?_map, List.getElem?_map] at hx
      by_cases h9 : k9 < n.toNatClampNeg
      · rw [List.getElem?_range h9] at hx
        cases hx
        rfl
      · have hn0 : (List.range n.toNatClampNeg)[k9]? = none := List.getElem?_eq_none (by rw [List.length_range]; omega)
        rw [hn0] at hx
        cases hx
    refine ⟨fun i j x y hi hj hxy => ?_, fun k9 x hx => ?_⟩
    · by_cases h1 : i < W1.length <;> by_cases h2 : j < W1.length
      · rw [List.getElem?_append_left h1] at hi
        rw [List.getElem?_append_left h2] at hj
        exact hD1.1 i j x y hi hj hxy
      · rw [List.getElem?_append_left h1] at hi
        rw [List.getElem?_append_right (by omega)] at hj
        have := hle _ _ hi
        have := hr _ _ hj
        omega
      · rw [List.getElem?_append_right (by omega)] at hi
        rw [List.getElem?_append_left h2] at hj
        have := hle _ _ hj
        have := hr _ _ hi
        omega
      · rw [List.getElem?_append_right (by omega)] at hi hj
        have := hr _ _ hi
        have := hr _ _ hj
        omega
    · by_cases h1 : k9 < W1.length
      · rw [List.getElem?_append_left h1] at hx
        exact hD1.2 k9 x hx
      · rw [List.getElem?_append_right (by omega)] at hx
        have := hr _ _ hx
        exact hA _ (by have := hS.1; omega)
  have hAr : ArrOfT s cA (.array ty) := fun N9 z9 => by
    obtain ⟨-, k9, hk9, cm9, hkk9⟩ := (hO 0 0 0).1
    exact ⟨(fun q hq => by cases hq), k9, hk9, cm9, hkk9⟩
  have hK2 : va_K D cl (tys ++ [(cA, .array ty)]) s := ⟨hK.1, fun k9 x hx => by
    by_cases hl : k9 < tys.length
    · rw [List.getElem?_append_left hl] at hx
      exact hK.2 k9 x hx
    · rw [List.getElem?_append_right (by omega)] at hx
      have h0 : k9 - tys.length < 1 := (List.getElem?_eq_some_iff.mp hx).1
      rw [show k9 - tys.length = 0 by omega] at hx
      cases hx
      exact ⟨hAr, fA⟩⟩
  obtain ⟨t, a1, b1⟩ := kk H.size (fun i => H.size + 1 + i) cA F.heap (fun i j _ _ h => by have h9 : H.size + 1 + i = H.size + 1 + j := h; omega) hnl hK2 (by rw [← vr_rows hnm]; exact vr_lay hP2) (by rw [← vr_rows hnm]; exact vr_layD hD2) ⟨by rw [f1]; have := hS.1; omega, fun x h1 h2 => (hold x (Nat.lt_of_lt_of_le h1 hS.1)).trans (hS.2.1 x h1 h2), hS.2.2⟩ F rfl X'
  refine ⟨t, step t ?_, b1⟩
  have e : T.heap.size = H.size := by rw [hT]
  rw [e]
  exact a1
end VGM
/-! ===== END ===== -/
end
section
/-! ===== BEGIN printed: names, fields, word lists, decode rows ===== -/
def RX0 : String := "StrawButts$Acts"
def TX0 : u_T := fun k => match k with
  | 0 => ("StrawButts$Acts", "rows", "[[I", true)
  | 1 => ("StrawButts$Acts", "next", "I", false)
  | _ => ("StrawButts$Acts", "size", "I", false)
def tyX0 : Nat → FieldType := fun k => match k with
  | 0 => .array (.array .int)
  | 1 => .int
  | _ => .int
abbrev wsX00 : List Cond := u_ws RX0 TX0 3
theorem nmX0 : ∀ a, a < 3 → ∀ b, b < 3 → a ≠ b → (TX0 a).2.1 ≠ (TX0 b).2.1 := by decide +kernel
theorem tyX0_ok : ∀ k, k < 3 → parseFieldDescriptor (TX0 k).2.2.1 = some (tyX0 k) := by decide +kernel
abbrev cX0_init : ByteArray := prog_2_method_1_code
def yX0_init : MethodName := ⟨RX0, "<init>", "()V"⟩
abbrev cX0_keep : ByteArray := prog_2_method_2_code
def yX0_keep : MethodName := ⟨RX0, "keep", "(LStrawButts$Field;)V"⟩
abbrev cX0_takeBack : ByteArray := prog_2_method_3_code
def yX0_takeBack : MethodName := ⟨RX0, "takeBack", "(LStrawButts$Field;)V"⟩
def RX1 : String := "StrawButts$Field"
def TX1 : u_T := fun k => match k with
  | _ => ("StrawButts$Field", "cells", "[I", true)
def tyX1 : Nat → FieldType := fun k => match k with
  | _ => .array .int
abbrev wsX10 : List Cond := u_ws RX1 TX1 1
theorem nmX1 : ∀ a, a < 1 → ∀ b, b < 1 → a ≠ b → (TX1 a).2.1 ≠ (TX1 b).2.1 := by decide +kernel
theorem tyX1_ok : ∀ k, k < 1 → parseFieldDescriptor (TX1 k).2.2.1 = some (tyX1 k) := by decide +kernel
abbrev cX1_init : ByteArray := prog_3_method_1_code
def yX1_init : MethodName := ⟨RX1, "<init>", "()V"⟩
abbrev cX1_copyFrom : ByteArray := prog_3_method_2_code
def yX1_copyFrom : MethodName := ⟨RX1, "copyFrom", "(LStrawButts$Field;)V"⟩
abbrev cX1_clear : ByteArray := prog_3_method_3_code
def yX1_clear : MethodName := ⟨RX1, "clear", "()V"⟩
abbrev cX1_isTold : ByteArray := prog_3_method_4_code
def yX1_isTold : MethodName := ⟨RX1, "isTold", "()Z"⟩
abbrev cX1_hasRing : ByteArray := prog_3_method_5_code
def yX1_hasRing : MethodName := ⟨RX1, "hasRing", "(I)Z"⟩
abbrev cX1_hasArcher : ByteArray := prog_3_method_6_code
def yX1_hasArcher : MethodName := ⟨RX1, "hasArcher", "(I)Z"⟩
abbrev cX1_windOf : ByteArray := prog_3_method_7_code
def yX1_windOf : MethodName := ⟨RX1, "windOf", "(I)I"⟩
abbrev cX1_drift : ByteArray := prog_3_method_8_code
def yX1_drift : MethodName := ⟨RX1, "drift", "(II)I"⟩
abbrev cX1_landing : ByteArray := prog_3_method_9_code
def yX1_landing : MethodName := ⟨RX1, "landing", "(III)I"⟩
abbrev cX1_ringAt : ByteArray := prog_3_method_10_code
def yX1_ringAt : MethodName := ⟨RX1, "ringAt", "(I)I"⟩
abbrev cX1_ringThatHitsOwn : ByteArray := prog_3_method_11_code
def yX1_ringThatHitsOwn : MethodName := ⟨RX1, "ringThatHitsOwn", "(II)I"⟩
abbrev cX1_loose : ByteArray := prog_3_method_12_code
def yX1_loose : MethodName := ⟨RX1, "loose", "(III)I"⟩
abbrev cX1_sumOfArchers : ByteArray := prog_3_method_13_code
def yX1_sumOfArchers : MethodName := ⟨RX1, "sumOfArchers", "(I)I"⟩
def RX2 : String := "StrawButts$Forecast"
def TX2 : u_T := fun k => match k with
  | 0 => ("StrawButts$Forecast", "which", "I", false)
  | 1 => ("StrawButts$Forecast", "much", "I", false)
  | 2 => ("StrawButts$Forecast", "drawnFrom", "I", false)
  | 3 => ("StrawButts$Forecast", "oneHas", "[I", true)
  | _ => ("StrawButts$Forecast", "otherHas", "[I", true)
def tyX2 : Nat → FieldType := fun k => match k with
  | 0 => .int
  | 1 => .int
  | 2 => .int
  | 3 => .array .int
  | _ => .array .int
abbrev wsX20 : List Cond := u_ws RX2 TX2 5
theorem nmX2 : ∀ a, a < 5 → ∀ b, b < 5 → a ≠ b → (TX2 a).2.1 ≠ (TX2 b).2.1 := by decide +kernel
theorem tyX2_ok : ∀ k, k < 5 → parseFieldDescriptor (TX2 k).2.2.1 = some (tyX2 k) := by decide +kernel
abbrev cX2_init : ByteArray := prog_4_method_1_code
def yX2_init : MethodName := ⟨RX2, "<init>", "()V"⟩
abbrev cX2_firstWell : ByteArray := prog_4_method_2_code
def yX2_firstWell : MethodName := ⟨RX2, "firstWell", "(LStrawButts$Play;II)I"⟩
abbrev cX2_areWell : ByteArray := prog_4_method_3_code
def yX2_areWell : MethodName := ⟨RX2, "areWell", "(LStrawButts$Field;II)Z"⟩
abbrev cX2_bestRow : ByteArray := prog_4_method_4_code
def yX2_bestRow : MethodName := ⟨RX2, "bestRow", "(LStrawButts$Field;III)I"⟩
abbrev cX2_findPlace : ByteArray := prog_4_method_5_code
def yX2_findPlace : MethodName := ⟨RX2, "findPlace", "(LStrawButts$Play;LStrawButts$Field;LStrawButts$Rule;II)V"⟩
abbrev cX2_findHeir : ByteArray := prog_4_method_6_code
def yX2_findHeir : MethodName := ⟨RX2, "findHeir", "(LStrawButts$Play;LStrawButts$Field;LStrawButts$Rule;I)V"⟩
abbrev cX2_easedSince : ByteArray := prog_4_method_7_code
def yX2_easedSince : MethodName := ⟨RX2, "easedSince", "(LStrawButts$Field;LStrawButts$Field;)I"⟩
abbrev cX2_takeIfMore : ByteArray := prog_4_method_8_code
def yX2_takeIfMore : MethodName := ⟨RX2, "takeIfMore", "(II)V"⟩
abbrev cX2_weighRings : ByteArray := prog_4_method_9_code
def yX2_weighRings : MethodName := ⟨RX2, "weighRings", "(LStrawButts$Play;LStrawButts$Field;LStrawButts$Rule;III)V"⟩
abbrev cX2_gainOf : ByteArray := prog_4_method_10_code
def yX2_gainOf : MethodName := ⟨RX2, "gainOf", "(LStrawButts$Field;LStrawButts$Field;I)I"⟩
abbrev cX2_restsOf : ByteArray := prog_4_method_11_code
def yX2_restsOf : MethodName := ⟨RX2, "restsOf", "(II)I"⟩
abbrev cX2_isRest : ByteArray := prog_4_method_12_code
def yX2_isRest : MethodName := ⟨RX2, "isRest", "(II)Z"⟩
abbrev cX2_penceOf : ByteArray := prog_4_method_13_code
def yX2_penceOf : MethodName := ⟨RX2, "penceOf", "(LStrawButts$Field;II)I"⟩
abbrev cX2_blowRounds : ByteArray := prog_4_method_14_code
def yX2_blowRounds : MethodName := ⟨RX2, "blowRounds", "(LStrawButts$Play;II)V"⟩
abbrev cX2_drawn : ByteArray := prog_4_method_15_code
def yX2_drawn : MethodName := ⟨RX2, "drawn", "()I"⟩
def RX3 : String := "StrawButts$GreenReader"
def TX3 : u_T := fun k => match k with
  | _ => ("StrawButts$GreenReader", "draft", "LStrawButts$Field;", true)
def tyX3 : Nat → FieldType := fun k => match k with
  | _ => .object "StrawButts$Field"
abbrev wsX30 : List Cond := u_ws RX3 TX3 1
theorem nmX3 : ∀ a, a < 1 → ∀ b, b < 1 → a ≠ b → (TX3 a).2.1 ≠ (TX3 b).2.1 := by decide +kernel
theorem tyX3_ok : ∀ k, k < 1 → parseFieldDescriptor (TX3 k).2.2.1 = some (tyX3 k) := by decide +kernel
abbrev cX3_init : ByteArray := prog_5_method_1_code
def yX3_init : MethodName := ⟨RX3, "<init>", "()V"⟩
abbrev cX3_readFrom : ByteArray := prog_5_method_2_code
def yX3_readFrom : MethodName := ⟨RX3, "readFrom", "(LStrawButts$Tape;)I"⟩
abbrev cX3_readClause : ByteArray := prog_5_method_3_code
def yX3_readClause : MethodName := ⟨RX3, "readClause", "(LStrawButts$Tape;I)V"⟩
abbrev cX3_opensClause : ByteArray := prog_5_method_4_code
def yX3_opensClause : MethodName := ⟨RX3, "opensClause", "(I)Z"⟩
abbrev cX3_isFullOf : ByteArray := prog_5_method_5_code
def yX3_isFullOf : MethodName := ⟨RX3, "isFullOf", "(I)Z"⟩
abbrev cX3_readNumbers : ByteArray := prog_5_method_6_code
def yX3_readNumbers : MethodName := ⟨RX3, "readNumbers", "(LStrawButts$Tape;I)V"⟩
abbrev cX3_readFreePlace : ByteArray := prog_5_method_7_code
def yX3_readFreePlace : MethodName := ⟨RX3, "readFreePlace", "(LStrawButts$Tape;)I"⟩
abbrev cX3_readNumber : ByteArray := prog_5_method_8_code
def yX3_readNumber : MethodName := ⟨RX3, "readNumber", "(LStrawButts$Tape;II)I"⟩
abbrev cX3_complete : ByteArray := prog_5_method_9_code
def yX3_complete : MethodName := ⟨RX3, "complete", "()V"⟩
def RX4 : String := "StrawButts$Moment"
def TX4 : u_T := fun k => match k with
  | 0 => ("StrawButts$Moment", "field", "LStrawButts$Field;", true)
  | 1 => ("StrawButts$Moment", "begin", "LStrawButts$Field;", true)
  | 2 => ("StrawButts$Moment", "notes", "LStrawButts$Notes;", true)
  | 3 => ("StrawButts$Moment", "inForce", "I", false)
  | 4 => ("StrawButts$Moment", "x", "I", false)
  | _ => ("StrawButts$Moment", "isMade", "Z", false)
def tyX4 : Nat → FieldType := fun k => match k with
  | 0 => .object "StrawButts$Field"
  | 1 => .object "StrawButts$Field"
  | 2 => .object "StrawButts$Notes"
  | 3 => .int
  | 4 => .int
  | _ => .boolean
abbrev wsX40 : List Cond := u_ws RX4 TX4 6
theorem nmX4 : ∀ a, a < 6 → ∀ b, b < 6 → a ≠ b → (TX4 a).2.1 ≠ (TX4 b).2.1 := by decide +kernel
theorem tyX4_ok : ∀ k, k < 6 → parseFieldDescriptor (TX4 k).2.2.1 = some (tyX4 k) := by decide +kernel
abbrev cX4_init : ByteArray := prog_6_method_1_code
def yX4_init : MethodName := ⟨RX4, "<init>", "()V"⟩
abbrev cX4_copyFrom : ByteArray := prog_6_method_2_code
def yX4_copyFrom : MethodName := ⟨RX4, "copyFrom", "(LStrawButts$Moment;)V"⟩
def RX5 : String := "StrawButts$Notes"
def TX5 : u_T := fun k => match k with
  | 0 => ("StrawButts$Notes", "rounds", "[I", true)
  | 1 => ("StrawButts$Notes", "archers", "[I", true)
  | 2 => ("StrawButts$Notes", "places", "[I", true)
  | _ => ("StrawButts$Notes", "size", "I", false)
def tyX5 : Nat → FieldType := fun k => match k with
  | 0 => .array .int
  | 1 => .array .int
  | 2 => .array .int
  | _ => .int
abbrev wsX50 : List Cond := u_ws RX5 TX5 4
theorem nmX5 : ∀ a, a < 4 → ∀ b, b < 4 → a ≠ b → (TX5 a).2.1 ≠ (TX5 b).2.1 := by decide +kernel
theorem tyX5_ok : ∀ k, k < 4 → parseFieldDescriptor (TX5 k).2.2.1 = some (tyX5 k) := by decide +kernel
abbrev cX5_init : ByteArray := prog_7_method_1_code
def yX5_init : MethodName := ⟨RX5, "<init>", "()V"⟩
abbrev cX5_copyFrom : ByteArray := prog_7_method_2_code
def yX5_copyFrom : MethodName := ⟨RX5, "copyFrom", "(LStrawButts$Notes;)V"⟩
abbrev cX5_isFull : ByteArray := prog_7_method_3_code
def yX5_isFull : MethodName := ⟨RX5, "isFull", "()Z"⟩
abbrev cX5_add : ByteArray := prog_7_method_4_code
def yX5_add : MethodName := ⟨RX5, "add", "(III)V"⟩
abbrev cX5_lastRound : ByteArray := prog_7_method_5_code
def yX5_lastRound : MethodName := ⟨RX5, "lastRound", "()I"⟩
abbrev cX5_agree : ByteArray := prog_7_method_6_code
def yX5_agree : MethodName := ⟨RX5, "agree", "(I[I)Z"⟩
def RX6 : String := "StrawButts$Play"
def TX6 : u_T := fun k => match k with
  | 0 => ("StrawButts$Play", "field", "LStrawButts$Field;", true)
  | 1 => ("StrawButts$Play", "came", "[I", true)
  | 2 => ("StrawButts$Play", "bound", "[I", true)
  | 3 => ("StrawButts$Play", "gust", "I", false)
  | 4 => ("StrawButts$Play", "isStill", "Z", false)
  | 5 => ("StrawButts$Play", "rule", "LStrawButts$Rule;", false)
  | 6 => ("StrawButts$Play", "words", "[J", true)
  | _ => ("StrawButts$Play", "stack", "[J", true)
def tyX6 : Nat → FieldType := fun k => match k with
  | 0 => .object "StrawButts$Field"
  | 1 => .array .int
  | 2 => .array .int
  | 3 => .int
  | 4 => .boolean
  | 5 => .object "StrawButts$Rule"
  | 6 => .array .long
  | _ => .array .long
abbrev wsX60 : List Cond := u_ws RX6 TX6 8
theorem nmX6 : ∀ a, a < 8 → ∀ b, b < 8 → a ≠ b → (TX6 a).2.1 ≠ (TX6 b).2.1 := by decide +kernel
theorem tyX6_ok : ∀ k, k < 8 → parseFieldDescriptor (TX6 k).2.2.1 = some (tyX6 k) := by decide +kernel
abbrev cX6_init : ByteArray := prog_8_method_1_code
def yX6_init : MethodName := ⟨RX6, "<init>", "()V"⟩
abbrev cX6_startFrom : ByteArray := prog_8_method_2_code
def yX6_startFrom : MethodName := ⟨RX6, "startFrom", "(LStrawButts$Field;LStrawButts$Rule;)V"⟩
abbrev cX6_playRound : ByteArray := prog_8_method_3_code
def yX6_playRound : MethodName := ⟨RX6, "playRound", "()I"⟩
abbrev cX6_playRounds : ByteArray := prog_8_method_4_code
def yX6_playRounds : MethodName := ⟨RX6, "playRounds", "(I)V"⟩
abbrev cX6_takeTurn : ByteArray := prog_8_method_5_code
def yX6_takeTurn : MethodName := ⟨RX6, "takeTurn", "(I)I"⟩
abbrev cX6_aimOf : ByteArray := prog_8_method_6_code
def yX6_aimOf : MethodName := ⟨RX6, "aimOf", "(II)I"⟩
def RX7 : String := "StrawButts$Rule"
def TX7 : u_T := fun k => match k with
  | 0 => ("StrawButts$Rule", "steps", "[I", true)
  | _ => ("StrawButts$Rule", "asksRound", "Z", true)
def tyX7 : Nat → FieldType := fun k => match k with
  | 0 => .array .int
  | _ => .boolean
abbrev wsX70 : List Cond := u_ws RX7 TX7 2
theorem nmX7 : ∀ a, a < 2 → ∀ b, b < 2 → a ≠ b → (TX7 a).2.1 ≠ (TX7 b).2.1 := by decide +kernel
theorem tyX7_ok : ∀ k, k < 2 → parseFieldDescriptor (TX7 k).2.2.1 = some (tyX7 k) := by decide +kernel
abbrev cX7_init : ByteArray := prog_9_method_1_code
def yX7_init : MethodName := ⟨RX7, "<init>", "([I)V"⟩
abbrev cX7_worth : ByteArray := prog_9_method_2_code
def yX7_worth : MethodName := ⟨RX7, "worth", "([J[J)J"⟩
abbrev cX7_joined : ByteArray := prog_9_method_3_code
def yX7_joined : MethodName := ⟨RX7, "joined", "(IJJ)J"⟩
def RX8 : String := "StrawButts$RuleReader"
def TX8 : u_T := fun k => match k with
  | 0 => ("StrawButts$RuleReader", "steps", "[I", true)
  | 1 => ("StrawButts$RuleReader", "size", "I", false)
  | _ => ("StrawButts$RuleReader", "parts", "I", false)
def tyX8 : Nat → FieldType := fun k => match k with
  | 0 => .array .int
  | 1 => .int
  | _ => .int
abbrev wsX80 : List Cond := u_ws RX8 TX8 3
theorem nmX8 : ∀ a, a < 3 → ∀ b, b < 3 → a ≠ b → (TX8 a).2.1 ≠ (TX8 b).2.1 := by decide +kernel
theorem tyX8_ok : ∀ k, k < 3 → parseFieldDescriptor (TX8 k).2.2.1 = some (tyX8 k) := by decide +kernel
abbrev cX8_init : ByteArray := prog_10_method_1_code
def yX8_init : MethodName := ⟨RX8, "<init>", "()V"⟩
abbrev cX8_readFrom : ByteArray := prog_10_method_2_code
def yX8_readFrom : MethodName := ⟨RX8, "readFrom", "(LStrawButts$Tape;)I"⟩
abbrev cX8_made : ByteArray := prog_10_method_3_code
def yX8_made : MethodName := ⟨RX8, "made", "()LStrawButts$Rule;"⟩
abbrev cX8_readClause : ByteArray := prog_10_method_4_code
def yX8_readClause : MethodName := ⟨RX8, "readClause", "(LStrawButts$Tape;I)V"⟩
abbrev cX8_readTest : ByteArray := prog_10_method_5_code
def yX8_readTest : MethodName := ⟨RX8, "readTest", "(LStrawButts$Tape;I)V"⟩
abbrev cX8_readFact : ByteArray := prog_10_method_6_code
def yX8_readFact : MethodName := ⟨RX8, "readFact", "(LStrawButts$Tape;I)V"⟩
abbrev cX8_readComparison : ByteArray := prog_10_method_7_code
def yX8_readComparison : MethodName := ⟨RX8, "readComparison", "(LStrawButts$Tape;)I"⟩
abbrev cX8_comparisonOf : ByteArray := prog_10_method_8_code
def yX8_comparisonOf : MethodName := ⟨RX8, "comparisonOf", "(LStrawButts$Tape;)I"⟩
abbrev cX8_readSum : ByteArray := prog_10_method_9_code
def yX8_readSum : MethodName := ⟨RX8, "readSum", "(LStrawButts$Tape;)V"⟩
abbrev cX8_reckoningOf : ByteArray := prog_10_method_10_code
def yX8_reckoningOf : MethodName := ⟨RX8, "reckoningOf", "(LStrawButts$Tape;)I"⟩
abbrev cX8_readValue : ByteArray := prog_10_method_11_code
def yX8_readValue : MethodName := ⟨RX8, "readValue", "(LStrawButts$Tape;)V"⟩
abbrev cX8_addStep : ByteArray := prog_10_method_12_code
def yX8_addStep : MethodName := ⟨RX8, "addStep", "(II)V"⟩
def RX9 : String := "StrawButts$Study"
def TX9 : u_T := fun k => match k with
  | 0 => ("StrawButts$Study", "fitting", "I", false)
  | 1 => ("StrawButts$Study", "firstFitting", "I", false)
  | _ => ("StrawButts$Study", "came", "[[I", true)
def tyX9 : Nat → FieldType := fun k => match k with
  | 0 => .int
  | 1 => .int
  | _ => .array (.array .int)
abbrev wsX90 : List Cond := u_ws RX9 TX9 3
theorem nmX9 : ∀ a, a < 3 → ∀ b, b < 3 → a ≠ b → (TX9 a).2.1 ≠ (TX9 b).2.1 := by decide +kernel
theorem tyX9_ok : ∀ k, k < 3 → parseFieldDescriptor (TX9 k).2.2.1 = some (tyX9 k) := by decide +kernel
abbrev cX9_init : ByteArray := prog_11_method_1_code
def yX9_init : MethodName := ⟨RX9, "<init>", "()V"⟩
abbrev cX9_numbersThatFit : ByteArray := prog_11_method_2_code
def yX9_numbersThatFit : MethodName := ⟨RX9, "numbersThatFit", "(LStrawButts$Play;LStrawButts$Moment;LStrawButts$Rule;III)I"⟩
abbrev cX9_lookAhead : ByteArray := prog_11_method_3_code
def yX9_lookAhead : MethodName := ⟨RX9, "lookAhead", "(LStrawButts$Play;LStrawButts$Moment;[LStrawButts$Rule;II)V"⟩
abbrev cX9_fits : ByteArray := prog_11_method_4_code
def yX9_fits : MethodName := ⟨RX9, "fits", "(LStrawButts$Play;LStrawButts$Notes;I[I)Z"⟩
abbrev cX9_bestParted : ByteArray := prog_11_method_5_code
def yX9_bestParted : MethodName := ⟨RX9, "bestParted", "(I)I"⟩
abbrev cX9_mostAlike : ByteArray := prog_11_method_6_code
def yX9_mostAlike : MethodName := ⟨RX9, "mostAlike", "(I)I"⟩
def RX10 : String := "StrawButts$Tape"
def TX10 : u_T := fun k => match k with
  | 0 => ("StrawButts$Tape", "bytes", "[I", true)
  | 1 => ("StrawButts$Tape", "length", "I", false)
  | 2 => ("StrawButts$Tape", "kinds", "[I", true)
  | 3 => ("StrawButts$Tape", "values", "[I", true)
  | 4 => ("StrawButts$Tape", "places", "[I", true)
  | 5 => ("StrawButts$Tape", "tokens", "I", false)
  | 6 => ("StrawButts$Tape", "at", "I", false)
  | 7 => ("StrawButts$Tape", "kind", "I", false)
  | 8 => ("StrawButts$Tape", "value", "I", false)
  | 9 => ("StrawButts$Tape", "place", "I", false)
  | _ => ("StrawButts$Tape", "fault", "I", false)
def tyX10 : Nat → FieldType := fun k => match k with
  | 0 => .array .int
  | 1 => .int
  | 2 => .array .int
  | 3 => .array .int
  | 4 => .array .int
  | 5 => .int
  | 6 => .int
  | 7 => .int
  | 8 => .int
  | 9 => .int
  | _ => .int
abbrev wsX100 : List Cond := u_ws RX10 TX10 11
theorem nmX10 : ∀ a, a < 11 → ∀ b, b < 11 → a ≠ b → (TX10 a).2.1 ≠ (TX10 b).2.1 := by decide +kernel
theorem tyX10_ok : ∀ k, k < 11 → parseFieldDescriptor (TX10 k).2.2.1 = some (tyX10 k) := by decide +kernel
abbrev cX10_init : ByteArray := prog_12_method_1_code
def yX10_init : MethodName := ⟨RX10, "<init>", "()V"⟩
abbrev cX10_hasRoom : ByteArray := prog_12_method_2_code
def yX10_hasRoom : MethodName := ⟨RX10, "hasRoom", "(I)Z"⟩
abbrev cX10_addBytes : ByteArray := prog_12_method_3_code
def yX10_addBytes : MethodName := ⟨RX10, "addBytes", "(I)V"⟩
abbrev cX10_open : ByteArray := prog_12_method_4_code
def yX10_open : MethodName := ⟨RX10, "open", "()V"⟩
abbrev cX10_advance : ByteArray := prog_12_method_5_code
def yX10_advance : MethodName := ⟨RX10, "advance", "()V"⟩
abbrev cX10_isSign : ByteArray := prog_12_method_6_code
def yX10_isSign : MethodName := ⟨RX10, "isSign", "(I)Z"⟩
abbrev cX10_isWord : ByteArray := prog_12_method_7_code
def yX10_isWord : MethodName := ⟨RX10, "isWord", "(I)Z"⟩
abbrev cX10_hasNextClause : ByteArray := prog_12_method_8_code
def yX10_hasNextClause : MethodName := ⟨RX10, "hasNextClause", "()Z"⟩
abbrev cX10_failAt : ByteArray := prog_12_method_9_code
def yX10_failAt : MethodName := ⟨RX10, "failAt", "(II)V"⟩
abbrev cX10_scanToken : ByteArray := prog_12_method_10_code
def yX10_scanToken : MethodName := ⟨RX10, "scanToken", "(I)I"⟩
abbrev cX10_scanNumber : ByteArray := prog_12_method_11_code
def yX10_scanNumber : MethodName := ⟨RX10, "scanNumber", "(I)I"⟩
abbrev cX10_scanWord : ByteArray := prog_12_method_12_code
def yX10_scanWord : MethodName := ⟨RX10, "scanWord", "(I)I"⟩
abbrev cX10_wordOf : ByteArray := prog_12_method_13_code
def yX10_wordOf : MethodName := ⟨RX10, "wordOf", "(II)I"⟩
abbrev cX10_isNamed : ByteArray := prog_12_method_14_code
def yX10_isNamed : MethodName := ⟨RX10, "isNamed", "(III)Z"⟩
abbrev cX10_isDigit : ByteArray := prog_12_method_15_code
def yX10_isDigit : MethodName := ⟨RX10, "isDigit", "(I)Z"⟩
abbrev cX10_isLetter : ByteArray := prog_12_method_16_code
def yX10_isLetter : MethodName := ⟨RX10, "isLetter", "(I)Z"⟩
abbrev cX10_addToken : ByteArray := prog_12_method_17_code
def yX10_addToken : MethodName := ⟨RX10, "addToken", "(III)V"⟩
def RX11 : String := "StrawButts"
def TX11 : u_T := fun k => match k with
  | 0 => ("StrawButts", "tape", "LStrawButts$Tape;", true)
  | 1 => ("StrawButts", "greenReader", "LStrawButts$GreenReader;", true)
  | 2 => ("StrawButts", "ruleReader", "LStrawButts$RuleReader;", true)
  | 3 => ("StrawButts", "rules", "[LStrawButts$Rule;", true)
  | 4 => ("StrawButts", "ruleCount", "I", false)
  | 5 => ("StrawButts", "now", "LStrawButts$Moment;", true)
  | 6 => ("StrawButts", "images", "[LStrawButts$Moment;", true)
  | 7 => ("StrawButts", "acts", "LStrawButts$Acts;", true)
  | 8 => ("StrawButts", "play", "LStrawButts$Play;", true)
  | 9 => ("StrawButts", "forecast", "LStrawButts$Forecast;", true)
  | _ => ("StrawButts", "study", "LStrawButts$Study;", true)
def tyX11 : Nat → FieldType := fun k => match k with
  | 0 => .object "StrawButts$Tape"
  | 1 => .object "StrawButts$GreenReader"
  | 2 => .object "StrawButts$RuleReader"
  | 3 => .array (.object "StrawButts$Rule")
  | 4 => .int
  | 5 => .object "StrawButts$Moment"
  | 6 => .array (.object "StrawButts$Moment")
  | 7 => .object "StrawButts$Acts"
  | 8 => .object "StrawButts$Play"
  | 9 => .object "StrawButts$Forecast"
  | _ => .object "StrawButts$Study"
abbrev wsX110 : List Cond := u_ws RX11 TX11 11
theorem nmX11 : ∀ a, a < 11 → ∀ b, b < 11 → a ≠ b → (TX11 a).2.1 ≠ (TX11 b).2.1 := by decide +kernel
theorem tyX11_ok : ∀ k, k < 11 → parseFieldDescriptor (TX11 k).2.2.1 = some (tyX11 k) := by decide +kernel
abbrev cX11_init : ByteArray := prog_1_method_1_code
def yX11_init : MethodName := ⟨RX11, "<init>", "()V"⟩
abbrev cX11_feed : ByteArray := prog_1_method_2_code
def yX11_feed : MethodName := ⟨RX11, "feed", "(IIIII)I"⟩
abbrev cX11_end : ByteArray := prog_1_method_3_code
def yX11_end : MethodName := ⟨RX11, "end", "(I)I"⟩
abbrev cX11_green : ByteArray := prog_1_method_4_code
def yX11_green : MethodName := ⟨RX11, "green", "()I"⟩
abbrev cX11_rule : ByteArray := prog_1_method_5_code
def yX11_rule : MethodName := ⟨RX11, "rule", "()I"⟩
abbrev cX11_force : ByteArray := prog_1_method_6_code
def yX11_force : MethodName := ⟨RX11, "force", "(I)I"⟩
abbrev cX11_ring : ByteArray := prog_1_method_7_code
def yX11_ring : MethodName := ⟨RX11, "ring", "(II)I"⟩
abbrev cX11_archer : ByteArray := prog_1_method_8_code
def yX11_archer : MethodName := ⟨RX11, "archer", "(II)I"⟩
abbrev cX11_wind : ByteArray := prog_1_method_9_code
def yX11_wind : MethodName := ⟨RX11, "wind", "(I)I"⟩
abbrev cX11_count : ByteArray := prog_1_method_10_code
def yX11_count : MethodName := ⟨RX11, "count", "(I)I"⟩
abbrev cX11_round : ByteArray := prog_1_method_11_code
def yX11_round : MethodName := ⟨RX11, "round", "()I"⟩
abbrev cX11_shoot : ByteArray := prog_1_method_12_code
def yX11_shoot : MethodName := ⟨RX11, "shoot", "(II)I"⟩
abbrev cX11_pull : ByteArray := prog_1_method_13_code
def yX11_pull : MethodName := ⟨RX11, "pull", "(II)I"⟩
abbrev cX11_breath : ByteArray := prog_1_method_14_code
def yX11_breath : MethodName := ⟨RX11, "breath", "(I)I"⟩
abbrev cX11_teach : ByteArray := prog_1_method_15_code
def yX11_teach : MethodName := ⟨RX11, "teach", "(II)I"⟩
abbrev cX11_undo : ByteArray := prog_1_method_16_code
def yX11_undo : MethodName := ⟨RX11, "undo", "()I"⟩
abbrev cX11_ahead : ByteArray := prog_1_method_17_code
def yX11_ahead : MethodName := ⟨RX11, "ahead", "(III)I"⟩
abbrev cX11_eased : ByteArray := prog_1_method_18_code
def yX11_eased : MethodName := ⟨RX11, "eased", "(I)I"⟩
abbrev cX11_allEased : ByteArray := prog_1_method_19_code
def yX11_allEased : MethodName := ⟨RX11, "allEased", "()I"⟩
abbrev cX11_down : ByteArray := prog_1_method_20_code
def yX11_down : MethodName := ⟨RX11, "down", "(II)I"⟩
abbrev cX11_bestAim : ByteArray := prog_1_method_21_code
def yX11_bestAim : MethodName := ⟨RX11, "bestAim", "(II)I"⟩
abbrev cX11_row : ByteArray := prog_1_method_22_code
def yX11_row : MethodName := ⟨RX11, "row", "(III)I"⟩
abbrev cX11_hold : ByteArray := prog_1_method_23_code
def yX11_hold : MethodName := ⟨RX11, "hold", "(I)I"⟩
abbrev cX11_leastSkill : ByteArray := prog_1_method_24_code
def yX11_leastSkill : MethodName := ⟨RX11, "leastSkill", "(II)I"⟩
abbrev cX11_set : ByteArray := prog_1_method_25_code
def yX11_set : MethodName := ⟨RX11, "set", "(III)I"⟩
abbrev cX11_given : ByteArray := prog_1_method_26_code
def yX11_given : MethodName := ⟨RX11, "given", "(II)I"⟩
abbrev cX11_rests : ByteArray := prog_1_method_27_code
def yX11_rests : MethodName := ⟨RX11, "rests", "(IIII)I"⟩
abbrev cX11_pence : ByteArray := prog_1_method_28_code
def yX11_pence : MethodName := ⟨RX11, "pence", "(II)I"⟩
abbrev cX11_note : ByteArray := prog_1_method_29_code
def yX11_note : MethodName := ⟨RX11, "note", "(III)I"⟩
abbrev cX11_skilled : ByteArray := prog_1_method_30_code
def yX11_skilled : MethodName := ⟨RX11, "skilled", "(I)I"⟩
abbrev cX11_ails : ByteArray := prog_1_method_31_code
def yX11_ails : MethodName := ⟨RX11, "ails", "(I)I"⟩
abbrev cX11_ruled : ByteArray := prog_1_method_32_code
def yX11_ruled : MethodName := ⟨RX11, "ruled", "(I)I"⟩
abbrev cX11_look : ByteArray := prog_1_method_33_code
def yX11_look : MethodName := ⟨RX11, "look", "(II)I"⟩
abbrev cX11_seed : ByteArray := prog_1_method_34_code
def yX11_seed : MethodName := ⟨RX11, "seed", "(I)I"⟩
abbrev cX11_gusts : ByteArray := prog_1_method_35_code
def yX11_gusts : MethodName := ⟨RX11, "gusts", "(IIII)I"⟩
abbrev cX11_image : ByteArray := prog_1_method_36_code
def yX11_image : MethodName := ⟨RX11, "image", "(I)I"⟩
abbrev cX11_back : ByteArray := prog_1_method_37_code
def yX11_back : MethodName := ⟨RX11, "back", "(I)I"⟩
abbrev cX11_within : ByteArray := prog_1_method_38_code
def yX11_within : MethodName := ⟨RX11, "within", "(III)Z"⟩
abbrev cX11_placeOrHedge : ByteArray := prog_1_method_39_code
def yX11_placeOrHedge : MethodName := ⟨RX11, "placeOrHedge", "(I)I"⟩
abbrev cX11_ruleInForce : ByteArray := prog_1_method_40_code
def yX11_ruleInForce : MethodName := ⟨RX11, "ruleInForce", "()LStrawButts$Rule;"⟩
def RX12 : String := "StrawButtsModel"
def TX12 : u_T := fun k => match k with
  | 0 => ("StrawButtsModel", "tape", "[B", true)
  | 1 => ("StrawButtsModel", "taped", "I", false)
  | 2 => ("StrawButtsModel", "rules", "I", false)
  | 3 => ("StrawButtsModel", "sign", "[I", true)
  | 4 => ("StrawButtsModel", "length", "[I", true)
  | 5 => ("StrawButtsModel", "clause", "[I", true)
  | 6 => ("StrawButtsModel", "clauses", "[I", true)
  | 7 => ("StrawButtsModel", "read", "[I", true)
  | 8 => ("StrawButtsModel", "next", "I", false)
  | 9 => ("StrawButtsModel", "wrong", "I", false)
  | 10 => ("StrawButtsModel", "number", "I", false)
  | 11 => ("StrawButtsModel", "text", "I", false)
  | 12 => ("StrawButtsModel", "made", "I", false)
  | 13 => ("StrawButtsModel", "deep", "I", false)
  | 14 => ("StrawButtsModel", "lines", "I", false)
  | 15 => ("StrawButtsModel", "open", "[I", true)
  | 16 => ("StrawButtsModel", "opened", "I", false)
  | 17 => ("StrawButtsModel", "stack", "[J", true)
  | 18 => ("StrawButtsModel", "top", "I", false)
  | 19 => ("StrawButtsModel", "word", "[J", true)
  | 20 => ("StrawButtsModel", "said", "[I", true)
  | 21 => ("StrawButtsModel", "force", "I", false)
  | 22 => ("StrawButtsModel", "x", "I", false)
  | 23 => ("StrawButtsModel", "windAlone", "I", false)
  | 24 => ("StrawButtsModel", "planned", "[I", true)
  | 25 => ("StrawButtsModel", "cameOf", "[I", true)
  | 26 => ("StrawButtsModel", "wasSaid", "[I", true)
  | 27 => ("StrawButtsModel", "undone", "I", false)
  | 28 => ("StrawButtsModel", "kept", "[I", true)
  | 29 => ("StrawButtsModel", "rowNow", "[I", true)
  | 30 => ("StrawButtsModel", "rowBest", "[I", true)
  | 31 => ("StrawButtsModel", "hasBy", "[I", true)
  | 32 => ("StrawButtsModel", "isFit", "[Z", true)
  | 33 => ("StrawButtsModel", "cameThen", "[I", true)
  | 34 => ("StrawButtsModel", "drawX", "J", false)
  | 35 => ("StrawButtsModel", "images", "[I", true)
  | 36 => ("StrawButtsModel", "imageForce", "[I", true)
  | 37 => ("StrawButtsModel", "imageX", "[I", true)
  | _ => ("StrawButtsModel", "isMade", "[Z", true)
def tyX12 : Nat → FieldType := fun k => match k with
  | 0 => .array .byte
  | 1 => .int
  | 2 => .int
  | 3 => .array .int
  | 4 => .array .int
  | 5 => .array .int
  | 6 => .array .int
  | 7 => .array .int
  | 8 => .int
  | 9 => .int
  | 10 => .int
  | 11 => .int
  | 12 => .int
  | 13 => .int
  | 14 => .int
  | 15 => .array .int
  | 16 => .int
  | 17 => .array .long
  | 18 => .int
  | 19 => .array .long
  | 20 => .array .int
  | 21 => .int
  | 22 => .int
  | 23 => .int
  | 24 => .array .int
  | 25 => .array .int
  | 26 => .array .int
  | 27 => .int
  | 28 => .array .int
  | 29 => .array .int
  | 30 => .array .int
  | 31 => .array .int
  | 32 => .array .boolean
  | 33 => .array .int
  | 34 => .long
  | 35 => .array .int
  | 36 => .array .int
  | 37 => .array .int
  | _ => .array .boolean
abbrev wsX120 : List Cond := u_ws RX12 TX12 39
theorem nmX12 : ∀ a, a < 39 → ∀ b, b < 39 → a ≠ b → (TX12 a).2.1 ≠ (TX12 b).2.1 := by decide +kernel
theorem tyX12_ok : ∀ k, k < 39 → parseFieldDescriptor (TX12 k).2.2.1 = some (tyX12 k) := by decide +kernel
abbrev cX12_init : ByteArray := prog_14_method_1_code
def yX12_init : MethodName := ⟨RX12, "<init>", "()V"⟩
abbrev cX12_in : ByteArray := prog_14_method_2_code
def yX12_in : MethodName := ⟨RX12, "in", "(JJJ)Z"⟩
abbrev cX12_four : ByteArray := prog_14_method_5_code
def yX12_four : MethodName := ⟨RX12, "four", "(I)V"⟩
abbrev cX12_feed : ByteArray := prog_14_method_6_code
def yX12_feed : MethodName := ⟨RX12, "feed", "(IIIII)I"⟩
abbrev cX12_end : ByteArray := prog_14_method_7_code
def yX12_end : MethodName := ⟨RX12, "end", "(I)I"⟩
abbrev cX12_fails : ByteArray := prog_14_method_8_code
def yX12_fails : MethodName := ⟨RX12, "fails", "(II)Z"⟩
abbrev cX12_see : ByteArray := prog_14_method_9_code
def yX12_see : MethodName := ⟨RX12, "see", "()I"⟩
abbrev cX12_isDigit : ByteArray := prog_14_method_10_code
def yX12_isDigit : MethodName := ⟨RX12, "isDigit", "(I)Z"⟩
abbrev cX12_isLetter : ByteArray := prog_14_method_11_code
def yX12_isLetter : MethodName := ⟨RX12, "isLetter", "(I)Z"⟩
abbrev cX12_isWord : ByteArray := prog_14_method_12_code
def yX12_isWord : MethodName := ⟨RX12, "isWord", "(J)Z"⟩
abbrev cX12_passWord : ByteArray := prog_14_method_13_code
def yX12_passWord : MethodName := ⟨RX12, "passWord", "()V"⟩
abbrev cX12_takesWord : ByteArray := prog_14_method_14_code
def yX12_takesWord : MethodName := ⟨RX12, "takesWord", "(J)Z"⟩
abbrev cX12_numberHere : ByteArray := prog_14_method_15_code
def yX12_numberHere : MethodName := ⟨RX12, "numberHere", "(II)Z"⟩
abbrev cX12_wordHere : ByteArray := prog_14_method_16_code
def yX12_wordHere : MethodName := ⟨RX12, "wordHere", "()I"⟩
abbrev cX12_puts : ByteArray := prog_14_method_17_code
def yX12_puts : MethodName := ⟨RX12, "puts", "(II)V"⟩
abbrev cX12_makes : ByteArray := prog_14_method_18_code
def yX12_makes : MethodName := ⟨RX12, "makes", "(I)Z"⟩
abbrev cX12_opens : ByteArray := prog_14_method_19_code
def yX12_opens : MethodName := ⟨RX12, "opens", "(I)Z"⟩
abbrev cX12_strength : ByteArray := prog_14_method_20_code
def yX12_strength : MethodName := ⟨RX12, "strength", "(I)I"⟩
abbrev cX12_layDown : ByteArray := prog_14_method_21_code
def yX12_layDown : MethodName := ⟨RX12, "layDown", "(I)V"⟩
abbrev cX12_value : ByteArray := prog_14_method_22_code
def yX12_value : MethodName := ⟨RX12, "value", "()Z"⟩
abbrev cX12_term : ByteArray := prog_14_method_23_code
def yX12_term : MethodName := ⟨RX12, "term", "()Z"⟩
abbrev cX12_sum : ByteArray := prog_14_method_24_code
def yX12_sum : MethodName := ⟨RX12, "sum", "()Z"⟩
abbrev cX12_compare : ByteArray := prog_14_method_25_code
def yX12_compare : MethodName := ⟨RX12, "compare", "()Z"⟩
abbrev cX12_fact : ByteArray := prog_14_method_26_code
def yX12_fact : MethodName := ⟨RX12, "fact", "()Z"⟩
abbrev cX12_isInside : ByteArray := prog_14_method_27_code
def yX12_isInside : MethodName := ⟨RX12, "isInside", "()Z"⟩
abbrev cX12_closes : ByteArray := prog_14_method_28_code
def yX12_closes : MethodName := ⟨RX12, "closes", "()V"⟩
abbrev cX12_tested : ByteArray := prog_14_method_29_code
def yX12_tested : MethodName := ⟨RX12, "tested", "()Z"⟩
abbrev cX12_isAimHere : ByteArray := prog_14_method_30_code
def yX12_isAimHere : MethodName := ⟨RX12, "isAimHere", "()Z"⟩
abbrev cX12_cellHere : ByteArray := prog_14_method_31_code
def yX12_cellHere : MethodName := ⟨RX12, "cellHere", "(III)Z"⟩
abbrev cX12_isGreenHere : ByteArray := prog_14_method_32_code
def yX12_isGreenHere : MethodName := ⟨RX12, "isGreenHere", "(I)Z"⟩
abbrev cX12_isWindHere : ByteArray := prog_14_method_33_code
def yX12_isWindHere : MethodName := ⟨RX12, "isWindHere", "(I)Z"⟩
abbrev cX12_isTaken : ByteArray := prog_14_method_34_code
def yX12_isTaken : MethodName := ⟨RX12, "isTaken", "(I)Z"⟩
abbrev cX12_isRingHere : ByteArray := prog_14_method_35_code
def yX12_isRingHere : MethodName := ⟨RX12, "isRingHere", "(I)Z"⟩
abbrev cX12_isArcherHere : ByteArray := prog_14_method_36_code
def yX12_isArcherHere : MethodName := ⟨RX12, "isArcherHere", "(I)Z"⟩
abbrev cX12_greenLineHere : ByteArray := prog_14_method_37_code
def yX12_greenLineHere : MethodName := ⟨RX12, "greenLineHere", "(I)Z"⟩
abbrev cX12_isGreenWord : ByteArray := prog_14_method_38_code
def yX12_isGreenWord : MethodName := ⟨RX12, "isGreenWord", "()Z"⟩
abbrev cX12_clauseHere : ByteArray := prog_14_method_39_code
def yX12_clauseHere : MethodName := ⟨RX12, "clauseHere", "()Z"⟩
abbrev cX12_readsAll : ByteArray := prog_14_method_40_code
def yX12_readsAll : MethodName := ⟨RX12, "readsAll", "()Z"⟩
abbrev cX12_rule : ByteArray := prog_14_method_41_code
def yX12_rule : MethodName := ⟨RX12, "rule", "()I"⟩
abbrev cX12_green : ByteArray := prog_14_method_42_code
def yX12_green : MethodName := ⟨RX12, "green", "()I"⟩
abbrev cX12_isRule : ByteArray := prog_14_method_43_code
def yX12_isRule : MethodName := ⟨RX12, "isRule", "(I)Z"⟩
abbrev cX12_push : ByteArray := prog_14_method_44_code
def yX12_push : MethodName := ⟨RX12, "push", "(J)V"⟩
abbrev cX12_pop : ByteArray := prog_14_method_45_code
def yX12_pop : MethodName := ⟨RX12, "pop", "()J"⟩
abbrev cX12_one : ByteArray := prog_14_method_46_code
def yX12_one : MethodName := ⟨RX12, "one", "(IJJ)J"⟩
abbrev cX12_reckons : ByteArray := prog_14_method_47_code
def yX12_reckons : MethodName := ⟨RX12, "reckons", "(III)J"⟩
abbrev cX12_isGreen : ByteArray := prog_14_method_48_code
def yX12_isGreen : MethodName := ⟨RX12, "isGreen", "()Z"⟩
abbrev cX12_comingRound : ByteArray := prog_14_method_49_code
def yX12_comingRound : MethodName := ⟨RX12, "comingRound", "()I"⟩
abbrev cX12_windOn : ByteArray := prog_14_method_50_code
def yX12_windOn : MethodName := ⟨RX12, "windOn", "(I)I"⟩
abbrev cX12_windNow : ByteArray := prog_14_method_51_code
def yX12_windNow : MethodName := ⟨RX12, "windNow", "()I"⟩
abbrev cX12_isRing : ByteArray := prog_14_method_52_code
def yX12_isRing : MethodName := ⟨RX12, "isRing", "(I)Z"⟩
abbrev cX12_isArcher : ByteArray := prog_14_method_53_code
def yX12_isArcher : MethodName := ⟨RX12, "isArcher", "(I)Z"⟩
abbrev cX12_skillOf : ByteArray := prog_14_method_54_code
def yX12_skillOf : MethodName := ⟨RX12, "skillOf", "(I)I"⟩
abbrev cX12_illOf : ByteArray := prog_14_method_55_code
def yX12_illOf : MethodName := ⟨RX12, "illOf", "(I)I"⟩
abbrev cX12_arrowsOf : ByteArray := prog_14_method_56_code
def yX12_arrowsOf : MethodName := ⟨RX12, "arrowsOf", "(I)I"⟩
abbrev cX12_sumOver : ByteArray := prog_14_method_57_code
def yX12_sumOver : MethodName := ⟨RX12, "sumOver", "(I)I"⟩
abbrev cX12_driftOf : ByteArray := prog_14_method_58_code
def yX12_driftOf : MethodName := ⟨RX12, "driftOf", "(I)I"⟩
abbrev cX12_ringAt : ByteArray := prog_14_method_59_code
def yX12_ringAt : MethodName := ⟨RX12, "ringAt", "(I)I"⟩
abbrev cX12_begins : ByteArray := prog_14_method_60_code
def yX12_begins : MethodName := ⟨RX12, "begins", "()V"⟩
abbrev cX12_force : ByteArray := prog_14_method_61_code
def yX12_force : MethodName := ⟨RX12, "force", "(I)I"⟩
abbrev cX12_ring : ByteArray := prog_14_method_62_code
def yX12_ring : MethodName := ⟨RX12, "ring", "(II)I"⟩
abbrev cX12_archer : ByteArray := prog_14_method_63_code
def yX12_archer : MethodName := ⟨RX12, "archer", "(II)I"⟩
abbrev cX12_wind : ByteArray := prog_14_method_64_code
def yX12_wind : MethodName := ⟨RX12, "wind", "(I)I"⟩
abbrev cX12_summedBy : ByteArray := prog_14_method_65_code
def yX12_summedBy : MethodName := ⟨RX12, "summedBy", "(I)J"⟩
abbrev cX12_sumOf : ByteArray := prog_14_method_66_code
def yX12_sumOf : MethodName := ⟨RX12, "sumOf", "(II)J"⟩
abbrev cX12_choice : ByteArray := prog_14_method_67_code
def yX12_choice : MethodName := ⟨RX12, "choice", "(I)I"⟩
abbrev cX12_downOf : ByteArray := prog_14_method_68_code
def yX12_downOf : MethodName := ⟨RX12, "downOf", "(II)I"⟩
abbrev cX12_eases1 : ByteArray := prog_14_method_69_code
def yX12_eases1 : MethodName := ⟨RX12, "eases1", "(I)V"⟩
abbrev cX12_shoots : ByteArray := prog_14_method_70_code
def yX12_shoots : MethodName := ⟨RX12, "shoots", "(II)I"⟩
abbrev cX12_turnOf : ByteArray := prog_14_method_71_code
def yX12_turnOf : MethodName := ⟨RX12, "turnOf", "(I)Z"⟩
abbrev cX12_passes : ByteArray := prog_14_method_72_code
def yX12_passes : MethodName := ⟨RX12, "passes", "()I"⟩
abbrev cX12_passesAll : ByteArray := prog_14_method_73_code
def yX12_passesAll : MethodName := ⟨RX12, "passesAll", "(I)V"⟩
abbrev cX12_keepsAct : ByteArray := prog_14_method_74_code
def yX12_keepsAct : MethodName := ⟨RX12, "keepsAct", "()V"⟩
abbrev cX12_undo : ByteArray := prog_14_method_75_code
def yX12_undo : MethodName := ⟨RX12, "undo", "()I"⟩
abbrev cX12_round : ByteArray := prog_14_method_76_code
def yX12_round : MethodName := ⟨RX12, "round", "()I"⟩
abbrev cX12_shoot : ByteArray := prog_14_method_77_code
def yX12_shoot : MethodName := ⟨RX12, "shoot", "(II)I"⟩
abbrev cX12_pull : ByteArray := prog_14_method_78_code
def yX12_pull : MethodName := ⟨RX12, "pull", "(II)I"⟩
abbrev cX12_breath : ByteArray := prog_14_method_79_code
def yX12_breath : MethodName := ⟨RX12, "breath", "(I)I"⟩
abbrev cX12_teach : ByteArray := prog_14_method_80_code
def yX12_teach : MethodName := ⟨RX12, "teach", "(II)I"⟩
abbrev cX12_keeps : ByteArray := prog_14_method_81_code
def yX12_keeps : MethodName := ⟨RX12, "keeps", "()V"⟩
abbrev cX12_laysBack : ByteArray := prog_14_method_82_code
def yX12_laysBack : MethodName := ⟨RX12, "laysBack", "()V"⟩
abbrev cX12_ahead : ByteArray := prog_14_method_83_code
def yX12_ahead : MethodName := ⟨RX12, "ahead", "(III)I"⟩
abbrev cX12_easedIn : ByteArray := prog_14_method_84_code
def yX12_easedIn : MethodName := ⟨RX12, "easedIn", "(I)I"⟩
abbrev cX12_eased : ByteArray := prog_14_method_85_code
def yX12_eased : MethodName := ⟨RX12, "eased", "(I)I"⟩
abbrev cX12_allEased : ByteArray := prog_14_method_86_code
def yX12_allEased : MethodName := ⟨RX12, "allEased", "()I"⟩
abbrev cX12_down : ByteArray := prog_14_method_87_code
def yX12_down : MethodName := ⟨RX12, "down", "(II)I"⟩
abbrev cX12_easeBy : ByteArray := prog_14_method_88_code
def yX12_easeBy : MethodName := ⟨RX12, "easeBy", "(II)I"⟩
abbrev cX12_bestAim : ByteArray := prog_14_method_89_code
def yX12_bestAim : MethodName := ⟨RX12, "bestAim", "(II)I"⟩
abbrev cX12_nextRow : ByteArray := prog_14_method_90_code
def yX12_nextRow : MethodName := ⟨RX12, "nextRow", "(I)Z"⟩
abbrev cX12_arrowsIn : ByteArray := prog_14_method_91_code
def yX12_arrowsIn : MethodName := ⟨RX12, "arrowsIn", "(I)I"⟩
abbrev cX12_easeByRow : ByteArray := prog_14_method_92_code
def yX12_easeByRow : MethodName := ⟨RX12, "easeByRow", "(II)I"⟩
abbrev cX12_findsRow : ByteArray := prog_14_method_93_code
def yX12_findsRow : MethodName := ⟨RX12, "findsRow", "(II)I"⟩
abbrev cX12_row : ByteArray := prog_14_method_94_code
def yX12_row : MethodName := ⟨RX12, "row", "(III)I"⟩
abbrev cX12_hold : ByteArray := prog_14_method_95_code
def yX12_hold : MethodName := ⟨RX12, "hold", "(I)I"⟩
abbrev cX12_leastSkill : ByteArray := prog_14_method_96_code
def yX12_leastSkill : MethodName := ⟨RX12, "leastSkill", "(II)I"⟩
abbrev cX12_easeIn : ByteArray := prog_14_method_97_code
def yX12_easeIn : MethodName := ⟨RX12, "easeIn", "(I)I"⟩
abbrev cX12_set : ByteArray := prog_14_method_98_code
def yX12_set : MethodName := ⟨RX12, "set", "(III)I"⟩
abbrev cX12_givesAll : ByteArray := prog_14_method_99_code
def yX12_givesAll : MethodName := ⟨RX12, "givesAll", "(I)V"⟩
abbrev cX12_given : ByteArray := prog_14_method_100_code
def yX12_given : MethodName := ⟨RX12, "given", "(II)I"⟩
abbrev cX12_isRest : ByteArray := prog_14_method_101_code
def yX12_isRest : MethodName := ⟨RX12, "isRest", "(II)Z"⟩
abbrev cX12_hasThen : ByteArray := prog_14_method_102_code
def yX12_hasThen : MethodName := ⟨RX12, "hasThen", "(II)I"⟩
abbrev cX12_fillsRest : ByteArray := prog_14_method_103_code
def yX12_fillsRest : MethodName := ⟨RX12, "fillsRest", "(IIIII)V"⟩
abbrev cX12_rests : ByteArray := prog_14_method_104_code
def yX12_rests : MethodName := ⟨RX12, "rests", "(IIII)I"⟩
abbrev cX12_pence : ByteArray := prog_14_method_105_code
def yX12_pence : MethodName := ⟨RX12, "pence", "(II)I"⟩
abbrev cX12_note : ByteArray := prog_14_method_106_code
def yX12_note : MethodName := ⟨RX12, "note", "(III)I"⟩
abbrev cX12_areNotesSo : ByteArray := prog_14_method_107_code
def yX12_areNotesSo : MethodName := ⟨RX12, "areNotesSo", "(I)Z"⟩
abbrev cX12_areAllSo : ByteArray := prog_14_method_108_code
def yX12_areAllSo : MethodName := ⟨RX12, "areAllSo", "(II)Z"⟩
abbrev cX12_fillsFits : ByteArray := prog_14_method_109_code
def yX12_fillsFits : MethodName := ⟨RX12, "fillsFits", "(I)V"⟩
abbrev cX12_ruled : ByteArray := prog_14_method_110_code
def yX12_ruled : MethodName := ⟨RX12, "ruled", "(I)I"⟩
abbrev cX12_alikeAt : ByteArray := prog_14_method_111_code
def yX12_alikeAt : MethodName := ⟨RX12, "alikeAt", "(I)I"⟩
abbrev cX12_look : ByteArray := prog_14_method_112_code
def yX12_look : MethodName := ⟨RX12, "look", "(II)I"⟩
abbrev cX12_canBe : ByteArray := prog_14_method_113_code
def yX12_canBe : MethodName := ⟨RX12, "canBe", "(III)I"⟩
abbrev cX12_skilled : ByteArray := prog_14_method_114_code
def yX12_skilled : MethodName := ⟨RX12, "skilled", "(I)I"⟩
abbrev cX12_ails : ByteArray := prog_14_method_115_code
def yX12_ails : MethodName := ⟨RX12, "ails", "(I)I"⟩
abbrev cX12_seed : ByteArray := prog_14_method_116_code
def yX12_seed : MethodName := ⟨RX12, "seed", "(I)I"⟩
abbrev cX12_draw : ByteArray := prog_14_method_117_code
def yX12_draw : MethodName := ⟨RX12, "draw", "(I)I"⟩
abbrev cX12_gusts : ByteArray := prog_14_method_118_code
def yX12_gusts : MethodName := ⟨RX12, "gusts", "(IIII)I"⟩
abbrev cX12_count : ByteArray := prog_14_method_119_code
def yX12_count : MethodName := ⟨RX12, "count", "(I)I"⟩
abbrev cX12_image : ByteArray := prog_14_method_120_code
def yX12_image : MethodName := ⟨RX12, "image", "(I)I"⟩
abbrev cX12_back : ByteArray := prog_14_method_121_code
def yX12_back : MethodName := ⟨RX12, "back", "(I)I"⟩
def RJx145de : String := "java/io/Serializable"
def TJx145de : u_T := fun k => match k with
  | _ => ("", "", "", false)
def tyJx145de : Nat → FieldType := fun k => match k with
  | _ => .int
abbrev wsJx145de0 : List Cond := u_ws RJx145de TJx145de 0
theorem nmJx145de : ∀ a, a < 0 → ∀ b, b < 0 → a ≠ b → (TJx145de a).2.1 ≠ (TJx145de b).2.1 := by decide +kernel
theorem tyJx145de_ok : ∀ k, k < 0 → parseFieldDescriptor (TJx145de k).2.2.1 = some (tyJx145de k) := by decide +kernel
def RJx9f9b0 : String := "java/lang/CharSequence"
def TJx9f9b0 : u_T := fun k => match k with
  | _ => ("", "", "", false)
def tyJx9f9b0 : Nat → FieldType := fun k => match k with
  | _ => .int
abbrev wsJx9f9b00 : List Cond := u_ws RJx9f9b0 TJx9f9b0 0
theorem nmJx9f9b0 : ∀ a, a < 0 → ∀ b, b < 0 → a ≠ b → (TJx9f9b0 a).2.1 ≠ (TJx9f9b0 b).2.1 := by decide +kernel
theorem tyJx9f9b0_ok : ∀ k, k < 0 → parseFieldDescriptor (TJx9f9b0 k).2.2.1 = some (tyJx9f9b0 k) := by decide +kernel
def RJx8e188 : String := "java/lang/Cloneable"
def TJx8e188 : u_T := fun k => match k with
  | _ => ("", "", "", false)
def tyJx8e188 : Nat → FieldType := fun k => match k with
  | _ => .int
abbrev wsJx8e1880 : List Cond := u_ws RJx8e188 TJx8e188 0
theorem nmJx8e188 : ∀ a, a < 0 → ∀ b, b < 0 → a ≠ b → (TJx8e188 a).2.1 ≠ (TJx8e188 b).2.1 := by decide +kernel
theorem tyJx8e188_ok : ∀ k, k < 0 → parseFieldDescriptor (TJx8e188 k).2.2.1 = some (tyJx8e188 k) := by decide +kernel
def RJxb160c : String := "java/lang/Comparable"
def TJxb160c : u_T := fun k => match k with
  | _ => ("", "", "", false)
def tyJxb160c : Nat → FieldType := fun k => match k with
  | _ => .int
abbrev wsJxb160c0 : List Cond := u_ws RJxb160c TJxb160c 0
theorem nmJxb160c : ∀ a, a < 0 → ∀ b, b < 0 → a ≠ b → (TJxb160c a).2.1 ≠ (TJxb160c b).2.1 := by decide +kernel
theorem tyJxb160c_ok : ∀ k, k < 0 → parseFieldDescriptor (TJxb160c k).2.2.1 = some (tyJxb160c k) := by decide +kernel
def RJ9 : String := "java/lang/Math"
def TJ9 : u_T := fun k => match k with
  | _ => ("", "", "", false)
def tyJ9 : Nat → FieldType := fun k => match k with
  | _ => .int
abbrev wsJ90 : List Cond := u_ws RJ9 TJ9 0
theorem nmJ9 : ∀ a, a < 0 → ∀ b, b < 0 → a ≠ b → (TJ9 a).2.1 ≠ (TJ9 b).2.1 := by decide +kernel
theorem tyJ9_ok : ∀ k, k < 0 → parseFieldDescriptor (TJ9 k).2.2.1 = some (tyJ9 k) := by decide +kernel
abbrev cJ9_max_7cf53 : ByteArray := prog_16_method_65_code
def yJ9_max_7cf53 : MethodName := ⟨RJ9, "max", "(II)I"⟩
abbrev cJ9_min_7cf53 : ByteArray := prog_16_method_69_code
def yJ9_min_7cf53 : MethodName := ⟨RJ9, "min", "(II)I"⟩
def RJ0 : String := "java/lang/String"
def TJ0 : u_T := fun k => match k with
  | _ => ("", "", "", false)
def tyJ0 : Nat → FieldType := fun k => match k with
  | _ => .int
abbrev wsJ00 : List Cond := u_ws RJ0 TJ0 0
theorem nmJ0 : ∀ a, a < 0 → ∀ b, b < 0 → a ≠ b → (TJ0 a).2.1 ≠ (TJ0 b).2.1 := by decide +kernel
theorem tyJ0_ok : ∀ k, k < 0 → parseFieldDescriptor (TJ0 k).2.2.1 = some (tyJ0 k) := by decide +kernel
abbrev cJ0_length_8abf5 : ByteArray := prog_17_method_54_code
def yJ0_length_8abf5 : MethodName := ⟨RJ0, "length", "()I"⟩
abbrev cJ0_charAt_5068e : ByteArray := prog_17_method_56_code
def yJ0_charAt_5068e : MethodName := ⟨RJ0, "charAt", "(I)C"⟩
abbrev cJ0_coder_7d493 : ByteArray := prog_17_method_152_code
def yJ0_coder_7d493 : MethodName := ⟨RJ0, "coder", "()B"⟩
abbrev cJ0_isLatin1_aae02 : ByteArray := prog_17_method_154_code
def yJ0_isLatin1_aae02 : MethodName := ⟨RJ0, "isLatin1", "()Z"⟩
abbrev cJ0_checkIndex_df160 : ByteArray := prog_17_method_155_code
def yJ0_checkIndex_df160 : MethodName := ⟨RJ0, "checkIndex", "(II)V"⟩
def RJ1 : String := "java/lang/StringLatin1"
def TJ1 : u_T := fun k => match k with
  | _ => ("", "", "", false)
def tyJ1 : Nat → FieldType := fun k => match k with
  | _ => .int
abbrev wsJ10 : List Cond := u_ws RJ1 TJ1 0
theorem nmJ1 : ∀ a, a < 0 → ∀ b, b < 0 → a ≠ b → (TJ1 a).2.1 ≠ (TJ1 b).2.1 := by decide +kernel
theorem tyJ1_ok : ∀ k, k < 0 → parseFieldDescriptor (TJ1 k).2.2.1 = some (tyJ1 k) := by decide +kernel
abbrev cJ1_charAt_3b067 : ByteArray := prog_18_method_2_code
def yJ1_charAt_3b067 : MethodName := ⟨RJ1, "charAt", "([BI)C"⟩
def RJ2 : String := "java/lang/StringUTF16"
def TJ2 : u_T := fun k => match k with
  | _ => ("", "", "", false)
def tyJ2 : Nat → FieldType := fun k => match k with
  | _ => .int
abbrev wsJ20 : List Cond := u_ws RJ2 TJ2 0
theorem nmJ2 : ∀ a, a < 0 → ∀ b, b < 0 → a ≠ b → (TJ2 a).2.1 ≠ (TJ2 b).2.1 := by decide +kernel
theorem tyJ2_ok : ∀ k, k < 0 → parseFieldDescriptor (TJ2 k).2.2.1 = some (tyJ2 k) := by decide +kernel
abbrev cJ2_getChar_3b067 : ByteArray := prog_19_method_5_code
def yJ2_getChar_3b067 : MethodName := ⟨RJ2, "getChar", "([BI)C"⟩
abbrev cJ2_length_9d52b : ByteArray := prog_19_method_6_code
def yJ2_length_9d52b : MethodName := ⟨RJ2, "length", "([B)I"⟩
abbrev cJ2_charAt_3b067 : ByteArray := prog_19_method_83_code
def yJ2_charAt_3b067 : MethodName := ⟨RJ2, "charAt", "([BI)C"⟩
abbrev cJ2_checkIndex_2214a : ByteArray := prog_19_method_91_code
def yJ2_checkIndex_2214a : MethodName := ⟨RJ2, "checkIndex", "(I[B)V"⟩
def RJ10 : String := "java/lang/System"
def TJ10 : u_T := fun k => match k with
  | _ => ("", "", "", false)
def tyJ10 : Nat → FieldType := fun k => match k with
  | _ => .int
abbrev wsJ100 : List Cond := u_ws RJ10 TJ10 0
theorem nmJ10 : ∀ a, a < 0 → ∀ b, b < 0 → a ≠ b → (TJ10 a).2.1 ≠ (TJ10 b).2.1 := by decide +kernel
theorem tyJ10_ok : ∀ k, k < 0 → parseFieldDescriptor (TJ10 k).2.2.1 = some (tyJ10 k) := by decide +kernel
def RJxfd54e : String := "java/lang/constant/Constable"
def TJxfd54e : u_T := fun k => match k with
  | _ => ("", "", "", false)
def tyJxfd54e : Nat → FieldType := fun k => match k with
  | _ => .int
abbrev wsJxfd54e0 : List Cond := u_ws RJxfd54e TJxfd54e 0
theorem nmJxfd54e : ∀ a, a < 0 → ∀ b, b < 0 → a ≠ b → (TJxfd54e a).2.1 ≠ (TJxfd54e b).2.1 := by decide +kernel
theorem tyJxfd54e_ok : ∀ k, k < 0 → parseFieldDescriptor (TJxfd54e k).2.2.1 = some (tyJxfd54e k) := by decide +kernel
def RJx3cf43 : String := "java/lang/constant/ConstantDesc"
def TJx3cf43 : u_T := fun k => match k with
  | _ => ("", "", "", false)
def tyJx3cf43 : Nat → FieldType := fun k => match k with
  | _ => .int
abbrev wsJx3cf430 : List Cond := u_ws RJx3cf43 TJx3cf43 0
theorem nmJx3cf43 : ∀ a, a < 0 → ∀ b, b < 0 → a ≠ b → (TJx3cf43 a).2.1 ≠ (TJx3cf43 b).2.1 := by decide +kernel
theorem tyJx3cf43_ok : ∀ k, k < 0 → parseFieldDescriptor (TJx3cf43 k).2.2.1 = some (tyJx3cf43 k) := by decide +kernel
def RJ7 : String := "java/util/Arrays"
def TJ7 : u_T := fun k => match k with
  | _ => ("", "", "", false)
def tyJ7 : Nat → FieldType := fun k => match k with
  | _ => .int
abbrev wsJ70 : List Cond := u_ws RJ7 TJ7 0
theorem nmJ7 : ∀ a, a < 0 → ∀ b, b < 0 → a ≠ b → (TJ7 a).2.1 ≠ (TJ7 b).2.1 := by decide +kernel
theorem tyJ7_ok : ∀ k, k < 0 → parseFieldDescriptor (TJ7 k).2.2.1 = some (tyJ7 k) := by decide +kernel
abbrev cJ7_fill_53178 : ByteArray := prog_21_method_103_code
def yJ7_fill_53178 : MethodName := ⟨RJ7, "fill", "([II)V"⟩
abbrev cJ7_copyOf_59c91 : ByteArray := prog_21_method_123_code
def yJ7_copyOf_59c91 : MethodName := ⟨RJ7, "copyOf", "([II)[I"⟩
def RJ3 : String := "jdk/internal/util/Preconditions"
def TJ3 : u_T := fun k => match k with
  | _ => ("", "", "", false)
def tyJ3 : Nat → FieldType := fun k => match k with
  | _ => .int
abbrev wsJ30 : List Cond := u_ws RJ3 TJ3 0
theorem nmJ3 : ∀ a, a < 0 → ∀ b, b < 0 → a ≠ b → (TJ3 a).2.1 ≠ (TJ3 b).2.1 := by decide +kernel
theorem tyJ3_ok : ∀ k, k < 0 → parseFieldDescriptor (TJ3 k).2.2.1 = some (tyJ3 k) := by decide +kernel
abbrev cJ3_checkIndex_8e157 : ByteArray := prog_22_method_11_code
def yJ3_checkIndex_8e157 : MethodName := ⟨RJ3, "checkIndex", "(IILjava/util/function/BiFunction;)I"⟩
def RL : String := "StrawButtsLaw"
abbrev cL_law : ByteArray := code
def yL_law : MethodName := ⟨RL, "law", "([I)Z"⟩
abbrev vwCl : List vw_C := [(RX0, TX0, 3), (RX1, TX1, 1), (RX2, TX2, 5), (RX3, TX3, 1), (RX4, TX4, 6), (RX5, TX5, 4), (RX6, TX6, 8), (RX7, TX7, 2), (RX8, TX8, 3), (RX9, TX9, 3), (RX10, TX10, 11), (RX11, TX11, 11), (RX12, TX12, 39)]
/-! ===== END ===== -/
end
section
/-! ===== this claim's own words: the tables' words that a call keeps, what every state keeps, contracts of methods that write nothing, contracts of methods that write ===== -/
def kGW : List Cond := lw_tbl.filter goodWord
theorem kin {w : Cond} (h : w ∈ lw_tbl) (g : goodWord w = true) : w ∈ kGW := List.mem_filter.mpr ⟨h, g⟩
theorem kin1 {i : Nat} {w : Cond} (h : tables_1_1[i]? = some w) (g : goodWord w = true) : w ∈ kGW := kin (List.mem_append_right _ (show w ∈ tables_1 from List.mem_append_left _ (List.mem_of_getElem? h))) g
theorem kin2 {i : Nat} {w : Cond} (h : tables_1_2[i]? = some w) (g : goodWord w = true) : w ∈ kGW := kin (List.mem_append_right _ (show w ∈ tables_1 from List.mem_append_right _ (List.mem_append_left _ (List.mem_of_getElem? h)))) g
theorem kin3 {i : Nat} {w : Cond} (h : tables_1_3[i]? = some w) (g : goodWord w = true) : w ∈ kGW := kin (List.mem_append_right _ (show w ∈ tables_1 from List.mem_append_right _ (List.mem_append_right _ (List.mem_append_left _ (List.mem_of_getElem? h))))) g
theorem kin4 {i : Nat} {w : Cond} (h : tables_1_4[i]? = some w) (g : goodWord w = true) : w ∈ kGW := kin (List.mem_append_right _ (show w ∈ tables_1 from List.mem_append_right _ (List.mem_append_right _ (List.mem_append_right _ (List.mem_append_left _ (List.mem_of_getElem? h)))))) g
theorem kin5 {i : Nat} {w : Cond} (h : tables_1_5[i]? = some w) (g : goodWord w = true) : w ∈ kGW := kin (List.mem_append_right _ (show w ∈ tables_1 from List.mem_append_right _ (List.mem_append_right _ (List.mem_append_right _ (List.mem_append_right _ (List.mem_append_left _ (List.mem_of_getElem? h))))))) g
theorem kin6 {i : Nat} {w : Cond} (h : tables_1_6[i]? = some w) (g : goodWord w = true) : w ∈ kGW := kin (List.mem_append_right _ (show w ∈ tables_1 from List.mem_append_right _ (List.mem_append_right _ (List.mem_append_right _ (List.mem_append_right _ (List.mem_append_right _ (List.mem_append_left _ (List.mem_of_getElem? h)))))))) g
theorem kin7 {i : Nat} {w : Cond} (h : tables_1_7[i]? = some w) (g : goodWord w = true) : w ∈ kGW := kin (List.mem_append_right _ (show w ∈ tables_1 from List.mem_append_right _ (List.mem_append_right _ (List.mem_append_right _ (List.mem_append_right _ (List.mem_append_right _ (List.mem_append_right _ (List.mem_of_getElem? h)))))))) g
theorem kinp {i : Nat} {q : MethodName × Nat} (h : lw_privs[i]? = some q) (g : goodWord (.selects q.1.cls q.1 q.1) = true) : Cond.selects q.1.cls q.1 q.1 ∈ kGW := kin (List.mem_append_left _ (List.mem_map.mpr ⟨q, List.mem_of_getElem? h, rfl⟩)) g
theorem kG_good : GoodIn kGW kGW := fun w h => ⟨h, good_of_word (List.mem_filter.mp h).2⟩
/-- a method's words: its code, and all that the tables say -/
abbrev kw (y : MethodName) (cc : ByteArray) (n : Nat) (ret : Option FieldType) : List Cond := .code y cc n ret :: kGW
def kMV (C : String) (y : MethodName) (bytes : ByteArray) (maxL : Nat) (ret : Option FieldType) (n : Nat) : Prop := Cond.instanceMethod y ∈ kGW ∧ Cond.selects C y y ∈ kGW ∧ Cond.initialized C ∈ kGW ∧ Cond.code y bytes maxL ret ∈ kGW ∧ (y.cls = C ∧ y.cls ≠ "java/lang/invoke/MethodHandle" ∧ y.cls ≠ "java/lang/invoke/VarHandle" ∧ (parseMethodDescriptor y.desc).map (fun d => d.parameters.length) = some n)
def kMS (y : MethodName) (bytes : ByteArray) (maxL : Nat) (ret : Option FieldType) (n : Nat) : Prop := Cond.static y ∈ kGW ∧ Cond.initialized y.cls ∈ kGW ∧ Cond.code y bytes maxL ret ∈ kGW ∧ (y.cls ≠ "java/lang/invoke/MethodHandle" ∧ y.cls ≠ "java/lang/invoke/VarHandle" ∧ (parseMethodDescriptor y.desc).map (fun d => d.parameters.length) = some n)
def kMI (y : MethodName) (bytes : ByteArray) (maxL : Nat) (n : Nat) : Prop := Cond.instanceMethod y ∈ kGW ∧ Cond.initialized y.cls ∈ kGW ∧ Cond.code y bytes maxL none ∈ kGW ∧ y.name = "<init>" ∧ (y.cls ≠ "java/lang/invoke/MethodHandle" ∧ y.cls ≠ "java/lang/invoke/VarHandle" ∧ (parseMethodDescriptor y.desc).map (fun d => d.parameters.length) = some n)
theorem k_gW {y : MethodName} {bytes : ByteArray} {maxL : Nat} {ret : Option FieldType} (h : Cond.code y bytes maxL ret ∈ kGW) : GoodIn kGW (kw y bytes maxL ret) := fun w hw => (List.mem_cons.mp hw).elim (fun e => e ▸ kG_good _ h) (fun h => kG_good w h)
theorem k_gV {own C : String} {index : Nat} {y : MethodName} {bytes : ByteArray} {maxL n : Nat} {ret : Option FieldType} (hm : Cond.methodLink own index y ∈ kGW) (h : kMV C y bytes maxL ret n) : GoodIn kGW (wsV own index C y (kw y bytes maxL ret)) := by
  intro w hw
  unfold wsV at hw
  rcases List.mem_append.mp hw with q | q
  · refine kG_good w ?_
    simp only [List.mem_cons, List.not_mem_nil, or_false] at q
    rcases q with rfl | rfl | rfl | rfl
    · exact hm
    · exact h.1
    · exact h.2.1
    · exact h.2.2.1
  · exact k_gW h.2.2.2.1 w q
theorem k_gS {own : String} {index : Nat} {y : MethodName} {bytes : ByteArray} {maxL n : Nat} {ret : Option FieldType} (hm : Cond.methodLink own index y ∈ kGW) (h : kMS y bytes maxL ret n) : GoodIn kGW (va_wsS own index y (kw y bytes maxL ret)) := by
  intro w hw
  unfold va_wsS at hw
  rcases List.mem_append.mp hw with q | q
  · refine kG_good w ?_
    simp only [List.mem_cons, List.not_mem_nil, or_false] at q
    rcases q with rfl | rfl | rfl
    · exact hm
    · exact h.1
    · exact h.2.1
  · exact k_gW h.2.2.1 w q
def kNest : List (String × Nat × MethodName × String) := [(RX11, 9, yX10_init, RX11), (RX11, 18, yX3_init, RX11), (RX3, 11, yX1_init, RX11), (RX11, 25, yX8_init, RX11), (RX11, 42, yX4_init, RX11), (RX4, 11, yX1_init, RX11), (RX4, 23, yX5_init, RX11), (RX11, 53, yX0_init, RX11), (RX11, 60, yX6_init, RX11), (RX6, 11, yX1_init, RX11), (RX11, 67, yX2_init, RX11), (RX11, 74, yX9_init, RX11), (RX3, 85, yX11_within, RX11), (RX1, 27, yX11_within, RX11), (RX9, 52, yX11_within, RX11)]
def kNN (U : State) : Prop := ∀ q ∈ kNest, va_Nw (.methodLinkNest q.1 q.2.1 q.2.2.1 q.2.2.2) U
theorem kNN.warm {s U : State} (hW : s.WarmedH U.vm) (h : kNN s) : kNN U := fun q hq => va_Nw.warmM hW (h q hq)
theorem kNN.same {s U : State} (hv : s.vm = U.vm) (h : kNN s) : kNN U := fun q hq => va_Nw.same rfl hv (h q hq)
def kE (D : va_G) (T : List (ClassId × FieldType)) (U : State) : Prop := va_K D vwCl T U ∧ kNN U ∧ va_AO "StrawButts$Moment" U ∧ va_AO "StrawButts$Rule" U ∧ va_AOA .int U
theorem kE.warm {D : va_G} {T : List (ClassId × FieldType)} {s U : State} (hW : s.WarmedH U.vm) (h : kE D T s) : kE D T U := ⟨va_K.moved hW.alike h.1, h.2.1.warm hW, va_AO.moved hW.alike h.2.2.1, va_AO.moved hW.alike h.2.2.2.1, va_AOA.moved hW.alike h.2.2.2.2⟩
theorem kE.calling {D : va_G} {T : List (ClassId × FieldType)} {U : State} {g : JFrame} {mk : MethodId} {a : Array Value} (h : kE D T U) : kE D T (U.calling g mk a) := ⟨va_K.moved (u := U) (U := U.calling g mk a) (Vm.Alike.refl U.vm) h.1, kNN.same (s := U) rfl h.2.1, va_AO.moved (u := U) (U := U.calling g mk a) (Vm.Alike.refl U.vm) h.2.2.1, va_AO.moved (u := U) (U := U.calling g mk a) (Vm.Alike.refl U.vm) h.2.2.2.1, va_AOA.moved (u := U) (U := U.calling g mk a) (Vm.Alike.refl U.vm) h.2.2.2.2⟩
/-- what holds of a method's frame all along -/
def kF (p : Program) (s : State) (m : MethodId) (meth : Method) (c : Code) (cc : ByteArray) (nL : Nat) (ret : Option FieldType) (args : Array Value) (own : String) : Prop := p.tables.exec = Jvm.exec ∧ c.code = cc ∧ meth.sig.returnType = ret ∧ c.maxLocals = nL ∧ s.vm.findClass own = some m.cls ∧ (∀ w ∈ kGW, w.before args s = true) ∧ meth.locks = false
abbrev kR (fr lo : Nat) : Room := { frames := fr, cells := 0, slots := 0, locals := lo }
abbrev kRm (fr lo mc ms : Nat) : Room := { frames := fr, cells := mc, slots := ms, locals := lo }
def kPc (D : va_G) (T : List (ClassId × FieldType)) (w : va_W) (U : State) : Prop := va_P D vwCl w U.heap ∧ kE D T U
def kQ (post : Int32 → Prop) : Array Value → State → Outcome → State → Prop := fun _ st oc t => ∃ r : Int32, oc = .returned (some (.int r)) ∧ post r ∧ t.heap = st.heap
/-- a method that writes nothing: its answer -/
def KP (l : Launch) (y : MethodName) (cc : ByteArray) (nL : Nat) (ret : Option FieldType) (fr lo : Nat) (D : va_G) (T : List (ClassId × FieldType)) (as : List Value) (w : va_W) (post : Int32 → Prop) : Prop := Met l y (kw y cc nL ret) (kR fr lo) (va_Pc as (kPc D T w)) (kQ post) 0 0 (fun _ => False)
def kWc (D : va_G) (T : List (ClassId × FieldType)) (w : va_W) (sz : Nat) (U : State) : Prop := U.heap.size = sz ∧ va_P D vwCl w U.heap ∧ kE D T U ∧ va_D (fun _ => True) w
def kBw {S : Type} (D : va_G) (A : Nat → Prop) (wf : S → va_W) (u : S) (t : State) : Prop := va_P D vwCl (wf u) t.heap ∧ va_D A (wf u)
/-- a method that writes: its answer, its cells behind it -/
def KI (l : Launch) (y : MethodName) (cc : ByteArray) (nL : Nat) (ret : Option FieldType) (fr lo : Nat) (D : va_G) (T : List (ClassId × FieldType)) (as : List Value) (w : va_W) {S : Type} (post : Int32 → S → Prop) (wf : S → va_W) (mc ms : Nat) : Prop := ∀ sz : Nat, Met l y (kw y cc nL ret) (kRm fr lo mc ms) (va_Pc as (kWc D T w sz)) (va_Qi post (kBw D (va_A w sz) wf) (va_A w sz)) mc ms (va_A w sz)
def KV (l : Launch) (y : MethodName) (cc : ByteArray) (nL : Nat) (fr lo : Nat) (D : va_G) (T : List (ClassId × FieldType)) (as : List Value) (w : va_W) {S : Type} (post : S → Prop) (wf : S → va_W) (mc ms : Nat) : Prop := ∀ sz : Nat, Met l y (kw y cc nL none) (kRm fr lo mc ms) (va_Pc as (kWc D T w sz)) (va_Qv post (kBw D (va_A w sz) wf) (va_A w sz)) mc ms (va_A w sz)
theorem kPc.blind {D : va_G} {T : List (ClassId × FieldType)} {w : va_W} {as : List Value} : FrameBlind (va_Pc as (kPc D T w)) := fun a U g mk q => ⟨q.1, q.2.1, q.2.2.calling⟩
theorem kWc.blind {D : va_G} {T : List (ClassId × FieldType)} {w : va_W} {as : List Value} {sz : Nat} : FrameBlind (va_Pc as (kWc D T w sz)) := fun a U g mk q => ⟨q.1, q.2.1, q.2.2.1, q.2.2.2.1.calling, q.2.2.2.2⟩
theorem KP.of {l : Launch} {y : MethodName} {fr lo : Nat} {D : va_G} {T : List (ClassId × FieldType)} {as : List Value} {w : va_W} {post : Int32 → Prop} {cc : ByteArray} {maxL : Nat} {ret : Option FieldType} (hy : plainName y.cls = true) (hlen : (lg_sl as).length ≤ maxL)
    (body : ∀ (p : Program) (e : Env) (s : State) (m : MethodId) (below : List Frame) (meth : Method) (c : Code) (ls : Array Slot), kF p s m meth c cc maxL ret as.toArray y.cls → kE D T s → va_P D vwCl w s.heap → lv_has ls maxL (lv_args 0 as) → W p l e (kR fr lo) s m as.toArray below meth c s.heap [] 0 0 (MQ below (kQ post) as.toArray s 0 0 (fun _ => False)) (F0 m 0 ls [])) : KP l y cc maxL ret fr lo D T as w post := by
  refine Met.ofW (cc := cc) (maxL := maxL) (ret := ret) hy rfl ?_
  intro p e s m args below meth c s₁ B hml hv
  obtain ⟨rfl, hP, hE⟩ := hv
  have hl := lv_entry as (n := maxL) hlen
  rw [lg_entry_eq]
  exact body p e s m below meth c _ ⟨B.exec, B.bytes, B.returns, hml, findClass_of_methodNamed B.named, fun w h => atoms_spec (ws := kw y cc maxL ret) B.pre w (List.mem_cons_of_mem _ h), B.notSynchronized⟩ hE hP hl
theorem KI.of {l : Launch} {y : MethodName} {fr lo mc ms : Nat} {D : va_G} {T : List (ClassId × FieldType)} {as : List Value} {w : va_W} {S : Type} {post : Int32 → S → Prop} {wf : S → va_W} {cc : ByteArray} {maxL : Nat} {ret : Option FieldType} (hy : plainName y.cls = true) (hlen : (lg_sl as).length ≤ maxL)
    (body : ∀ (p : Program) (e : Env) (s : State) (m : MethodId) (below : List Frame) (meth : Method) (c : Code) (ls : Array Slot) (A : Nat → Prop), kF p s m meth c cc maxL ret as.toArray y.cls → kE D T s → va_P D vwCl w s.heap → va_D A w → (∀ q : Nat, s.heap.size ≤ q → A q) → va_S A s.heap s.heap [] → lv_has ls maxL (lv_args 0 as) → W p l e (kRm fr lo mc ms) s m as.toArray below meth c s.heap [] 0 0 (MQ below (va_Qi post (kBw D A wf) A) as.toArray s mc ms A) (F0 m 0 ls [])) : KI l y cc maxL ret fr lo D T as w post wf mc ms := by
  intro sz
  refine Met.ofW (cc := cc) (maxL := maxL) (ret := ret) hy rfl ?_
  intro p e s m args below meth c s₁ B hml hv
  obtain ⟨rfl, rfl, hP, hE, hD0⟩ := hv
  have hl := lv_entry as (n := maxL) hlen
  rw [lg_entry_eq]
  exact body p e s m below meth c _ (va_A w s.heap.size) ⟨B.exec, B.bytes, B.returns, hml, findClass_of_methodNamed B.named, fun w h => atoms_spec (ws := kw y cc maxL ret) B.pre w (List.mem_cons_of_mem _ h), B.notSynchronized⟩ hE hP (hD0.self (sz := s.heap.size)) (fun q h => Or.inr h) va_S.rf hl
theorem KV.of {l : Launch} {y : MethodName} {fr lo mc ms : Nat} {D : va_G} {T : List (ClassId × FieldType)} {as : List Value} {w : va_W} {S : Type} {post : S → Prop} {wf : S → va_W} {cc : ByteArray} {maxL : Nat} (hy : plainName y.cls = true) (hlen : (lg_sl as).length ≤ maxL)
    (body : ∀ (p : Program) (e : Env) (s : State) (m : MethodId) (below : List Frame) (meth : Method) (c : Code) (ls : Array Slot) (A : Nat → Prop), kF p s m meth c cc maxL none as.toArray y.cls → meth.name = y.name → kE D T s → va_P D vwCl w s.heap → va_D A w → (∀ q : Nat, s.heap.size ≤ q → A q) → va_S A s.heap s.heap [] → lv_has ls maxL (lv_args 0 as) → W p l e (kRm fr lo mc ms) s m as.toArray below meth c s.heap [] 0 0 (MQ below (va_Qv post (kBw D A wf) A) as.toArray s mc ms A) (F0 m 0 ls [])) : KV l y cc maxL fr lo D T as w post wf mc ms := by
  intro sz
  refine Met.ofW (cc := cc) (maxL := maxL) (ret := none) hy rfl ?_
  intro p e s m args below meth c s₁ B hml hv
  obtain ⟨rfl, rfl, hP, hE, hD0⟩ := hv
  have hl := lv_entry as (n := maxL) hlen
  rw [lg_entry_eq]
  exact body p e s m below meth c _ (va_A w s.heap.size) ⟨B.exec, B.bytes, B.returns, hml, findClass_of_methodNamed B.named, fun w h => atoms_spec (ws := kw y cc maxL none) B.pre w (List.mem_cons_of_mem _ h), B.notSynchronized⟩ (name_of_methodNamed B.named B.method).1 hE hP (hD0.self (sz := s.heap.size)) (fun q h => Or.inr h) va_S.rf hl
section KB
variable {p : Program} {l : Launch} {e : Env} {R : Room} {s : State} {m : MethodId} {args : Array Value} {below : List Frame} {meth : Method} {c : Code} {H : Heap} {locs : List Loc} {cells slots : Nat} {Q : State → Prop}
variable {cc bytes : ByteArray} {pc nL maxL index n ci : Nat} {ls : Array Slot} {rest st As : List Value} {D : va_G} {T : List (ClassId × FieldType)} {A : Nat → Prop} {w W0 wr : va_W} {H0 : Heap} {ret ret' : Option FieldType} {b : Nat} {fs : List Value} {cq : vw_C}
variable {y : MethodName} {fr lo mc ms : Nat} {own host : String}
/-- the top is another number -/
theorem k_top {x z : Int32} (h : x = z) (k : W p l e R s m args below meth c H locs cells slots Q (F0 m pc ls (.int z :: rest))) : W p l e R s m args below meth c H locs cells slots Q (F0 m pc ls (.int x :: rest)) := h ▸ k
theorem KP.rt {post : Int32 → Prop} {v : Int32} {ty : FieldType} (F : kF p s m meth c cc nL (some ty) args own) (hn : narrow ty (.int v) = .int v) (hp : post v) (hdg : decode cc pc = .ok (.ireturn, 1)) : W p l e R s m args below meth c s.heap [] 0 0 (MQ below (kQ post) args s 0 0 (fun _ => False)) (F0 m pc ls [.int v]) :=
  W.zret F.1 F.2.1 F.2.2.1 hn (fun t ht _ => ⟨v, rfl, hp, ht⟩) (fun q h => by cases h) hdg F.2.2.2.2.2.2
theorem KI.rt {S : Type} {post : Int32 → S → Prop} {wf : S → va_W} {v : Int32} {ty : FieldType} (u : S) (F : kF p s m meth c cc nL (some ty) args own) (hn : narrow ty (.int v) = .int v) (hP : va_P D vwCl (wf u) H) (hD : va_D A (wf u)) (hS : va_S A s.heap H locs) (hp : post v u) (hc : cells ≤ mc) (hs : slots ≤ ms) (hdg : decode cc pc = .ok (.ireturn, 1)) : W p l e R s m args below meth c H locs cells slots (MQ below (va_Qi post (kBw D A wf) A) args s mc ms A) (F0 m pc ls [.int v]) :=
  W.widen hc hs (W.zret F.1 F.2.1 F.2.2.1 hn (fun t ht _ => ⟨⟨v, u, rfl, hp, by rw [ht]; exact hP, hD⟩, hS.F ht⟩) hS.2.2 hdg F.2.2.2.2.2.2)
theorem KV.rt {S : Type} {post : S → Prop} {wf : S → va_W} (u : S) (F : kF p s m meth c cc nL none args own) (hP : va_P D vwCl (wf u) H) (hD : va_D A (wf u)) (hS : va_S A s.heap H locs) (hp : post u) (hc : cells ≤ mc) (hs : slots ≤ ms) (hdg : decode cc pc = .ok (.return_, 1)) : W p l e R s m args below meth c H locs cells slots (MQ below (va_Qv post (kBw D A wf) A) args s mc ms A) (F0 m pc ls []) :=
  W.widen hc hs (W.vret F.1 F.2.1 F.2.2.1 (fun t ht _ => ⟨⟨u, rfl, hp, by rw [ht]; exact hP, hD⟩, hS.F ht⟩) hS.2.2 hdg F.2.2.2.2.2.2)
/-- behind a call that wrote nothing -/
theorem kcP {post : Int32 → Prop} {a : Array Value} (hr : va_Run p l e R s m args below meth c H locs cells slots 0 0 (F0 m pc ls st) rest (kQ post a) (fun _ => False)) (kk : ∀ r : Int32, post r → W p l e R s m args below meth c H locs cells slots Q (F0 m (pc + 3) ls (.int r :: rest))) : W p l e R s m args below meth c H locs cells slots Q (F0 m pc ls st) := by
  intro T hT X
  obtain ⟨v, st₀, t, T', L, h0, X', hL, e1, e2, ⟨r, hv, hp, hh⟩, st⟩ := hr T hT X
  cases hv
  obtain ⟨t2, a1, b1⟩ := kk r hp T' (by rw [e1, hh, h0]) (Stand.forget X' (fun q h => (hL q h).elim))
  exact ⟨t2, st t2 a1, b1⟩
/-- calls of methods that write nothing: by invokevirtual, invokestatic, and of a nest mate's -/
theorem kcV {post : Int32 → Prop} {C : String} (F : kF p s m meth c cc nL ret args own) (hE : kE D T s) (hP : va_P D vwCl W0 H) (hl : ls.size = nL) (hM : KP l y bytes maxL ret' fr lo D T (.ref b :: As) w post) (hm : Cond.methodLink own index y ∈ kGW) (hY : kMV C y bytes maxL ret' n) (hR : fr + 1 ≤ R.frames ∧ 8 + (maxL + 11) + lo ≤ R.locals) (is : List Nat) (hsub : is.filterMap (fun i => W0[i]?) = w) (hb0 : w[0]? = some (b, .inr (ci, fs))) (hci : vwCl[ci]? = some cq) (hq : cq.1 = C) (hn : As.length = n) (hst : st = As.reverse ++ .ref b :: rest) (hW : (rest.map fun v => v.category).sum ≤ 8) (hf : cells ≤ R.cells ∧ slots ≤ R.slots) (hdg : decode cc pc = .ok (.invokevirtual index, 3))
    (kk : ∀ r : Int32, post r → W p l e R s m args below meth c H locs cells slots Q (F0 m (pc + 3) ls (.int r :: rest))) : W p l e R s m args below meth c H locs cells slots Q (F0 m pc ls st) := by
  have hPc := hP.sub is hsub
  obtain ⟨f1, f2, f3, f4, f5, f6, f7⟩ := F
  subst hq
  exact kcP (va_runV (As := As) (rest := rest) (nL := nL) ⟨f1, f2, f4, f5, f6⟩ hM (cwV n f6 (k_gV hm hY) rfl rfl rfl hY.2.2.2.2 hR) ⟨kPc.blind, va_recv hE.1 hPc hci hb0, fun U hU hW => ⟨rfl, by rw [hU]; exact hPc, hE.warm hW⟩⟩ rfl hn hl hst (lv_room hW) hdg hf) kk
theorem kcS {post : Int32 → Prop} (F : kF p s m meth c cc nL ret args own) (hE : kE D T s) (hP : va_P D vwCl W0 H) (hl : ls.size = nL) (hM : KP l y bytes maxL ret' fr lo D T As w post) (hm : Cond.methodLink own index y ∈ kGW) (hY : kMS y bytes maxL ret' n) (hR : fr + 1 ≤ R.frames ∧ 8 + (maxL + 11) + lo ≤ R.locals) (is : List Nat) (hsub : is.filterMap (fun i => W0[i]?) = w) (hn : As.length = n) (hst : st = As.reverse ++ rest) (hW : (rest.map fun v => v.category).sum ≤ 8) (hf : cells ≤ R.cells ∧ slots ≤ R.slots) (hdg : decode cc pc = .ok (.invokestatic index, 3))
    (kk : ∀ r : Int32, post r → W p l e R s m args below meth c H locs cells slots Q (F0 m (pc + 3) ls (.int r :: rest))) : W p l e R s m args below meth c H locs cells slots Q (F0 m pc ls st) := by
  have hPc := hP.sub is hsub
  obtain ⟨f1, f2, f3, f4, f5, f6, f7⟩ := F
  exact kcP (va_runS (As := As) (rest := rest) (nL := nL) ⟨f1, f2, f4, f5, f6⟩ hM (va_cwS n f6 (k_gS hm hY) rfl rfl rfl hY.2.2.2 hR) ⟨kPc.blind, fun U hU hW => ⟨rfl, by rw [hU]; exact hPc, hE.warm hW⟩⟩ rfl hn hl hst (lv_room hW) hdg hf) kk
theorem kcSN {post : Int32 → Prop} (F : kF p s m meth c cc nL ret args own) (hE : kE D T s) (hP : va_P D vwCl W0 H) (hl : ls.size = nL) (hM : KP l y bytes maxL ret' fr lo D T As w post) (hY : kMS y bytes maxL ret' n) (hne : (own, index, y, host) ∈ kNest) (hR : fr + 1 ≤ R.frames ∧ 8 + (maxL + 11) + lo ≤ R.locals) (is : List Nat) (hsub : is.filterMap (fun i => W0[i]?) = w) (hn : As.length = n) (hst : st = As.reverse ++ rest) (hW : (rest.map fun v => v.category).sum ≤ 8) (hf : cells ≤ R.cells ∧ slots ≤ R.slots) (hdg : decode cc pc = .ok (.invokestatic index, 3))
    (kk : ∀ r : Int32, post r → W p l e R s m args below meth c H locs cells slots Q (F0 m (pc + 3) ls (.int r :: rest))) : W p l e R s m args below meth c H locs cells slots Q (F0 m pc ls st) := by
  have hPc := hP.sub is hsub
  obtain ⟨f1, f2, f3, f4, f5, f6, f7⟩ := F
  exact kcP (va_runSN (As := As) (rest := rest) (nL := nL) (host := host) ⟨f1, f2, f4, f5, f6⟩ hM ⟨va_cnB n f6 (k_gW hY.2.2.1) rfl rfl rfl (hE.2.1 _ hne) (f6 _ hY.2.1) hY.2.2.2 hR, f6 _ hY.1, trivial⟩ ⟨kPc.blind, fun U hU hW => ⟨rfl, by rw [hU]; exact hPc, hE.warm hW⟩⟩ rfl hn hl hst (lv_room hW) hdg hf) kk
/-- behind a call that wrote -/
theorem kwI {S : Type} {post : Int32 → S → Prop} {wf : S → va_W} {a : Array Value} (hr : va_Run p l e R s m args below meth c H locs cells slots mc ms (F0 m pc ls st) rest (va_Qi post (kBw D (va_A w H.size) wf) (va_A w H.size) a) (va_A w H.size)) (hP : va_P D vwCl W0 H) (hD : va_D A W0) (hS : va_S A H0 H locs) (hA : ∀ q : Nat, H0.size ≤ q → A q) (isC isR : List Nat) (hC : isC.map (fun i => W0[i]?) = w.map some) (hRr : isR.map (fun i => W0[i]?) = wr.map some) (hn1 : va_nd isR = true) (hdis : ∀ i ∈ isR, i ∉ isC)
    (kk : ∀ (r : Int32) (u : S) (H1 : Heap) (locs1 : List Loc), post r u → va_P D vwCl (wr ++ wf u) H1 → va_D A (wr ++ wf u) → va_S A H0 H1 locs1 → W p l e R s m args below meth c H1 locs1 (cells + mc) (slots + ms) Q (F0 m (pc + 3) ls (.int r :: rest))) : W p l e R s m args below meth c H locs cells slots Q (F0 m pc ls st) := by
  have hFc := va_free (wc := w) hD hS hA isC hC
  refine va_calli hr hS (fun q _ h => hFc q h) hFc (fun r u t H1 locs1 ht hvm hw hB hz1 hk1 hS1 => ?_)
  obtain ⟨hP1, hD1⟩ := hB
  rw [ht] at hP1
  obtain ⟨hP2, hD2⟩ := va_join (wr := wr) (w1 := wf u) hP hD isC isR hC hRr hn1 hdis hk1 hFc hP1 hD1
  exact kk r u H1 locs1 hw hP2 hD2 hS1
theorem kwV {S : Type} {post : S → Prop} {wf : S → va_W} {a : Array Value} (hr : va_Run p l e R s m args below meth c H locs cells slots mc ms (F0 m pc ls st) rest (va_Qv post (kBw D (va_A w H.size) wf) (va_A w H.size) a) (va_A w H.size)) (hP : va_P D vwCl W0 H) (hD : va_D A W0) (hS : va_S A H0 H locs) (hA : ∀ q : Nat, H0.size ≤ q → A q) (isC isR : List Nat) (hC : isC.map (fun i => W0[i]?) = w.map some) (hRr : isR.map (fun i => W0[i]?) = wr.map some) (hn1 : va_nd isR = true) (hdis : ∀ i ∈ isR, i ∉ isC)
    (kk : ∀ (u : S) (H1 : Heap) (locs1 : List Loc), post u → va_P D vwCl (wr ++ wf u) H1 → va_D A (wr ++ wf u) → va_S A H0 H1 locs1 → W p l e R s m args below meth c H1 locs1 (cells + mc) (slots + ms) Q (F0 m (pc + 3) ls rest)) : W p l e R s m args below meth c H locs cells slots Q (F0 m pc ls st) := by
  have hFc := va_free (wc := w) hD hS hA isC hC
  refine va_callv hr hS (fun q _ h => hFc q h) hFc (fun u t H1 locs1 ht hvm hw hB hz1 hk1 hS1 => ?_)
  obtain ⟨hP1, hD1⟩ := hB
  rw [ht] at hP1
  obtain ⟨hP2, hD2⟩ := va_join (wr := wr) (w1 := wf u) hP hD isC isR hC hRr hn1 hdis hk1 hFc hP1 hD1
  exact kk u H1 locs1 hw hP2 hD2 hS1
theorem k_pick {is : List Nat} (h : is.map (fun i => W0[i]?) = w.map some) : is.filterMap (fun i => W0[i]?) = w := by
  have h1 : is.filterMap (fun i => W0[i]?) = (is.map (fun i => W0[i]?)).filterMap id := by rw [List.filterMap_map]; rfl
  rw [h1, h, List.filterMap_map]
  have h2 : (id ∘ some : Nat × va_E → Option (Nat × va_E)) = some := rfl
  rw [h2, List.filterMap_some]
theorem k_pre {sz : Nat} (hE : kE D T s) (hP : va_P D vwCl W0 H) (hD : va_D A W0) (hsz : H.size = sz) (is : List Nat) (hn : va_nd is = true) (h : is.map (fun i => W0[i]?) = w.map some) : ∀ U : State, U.heap = H → s.WarmedH U.vm → va_Pc As (kWc D T w sz) As.toArray U := fun U hU hW => ⟨rfl, by rw [hU]; exact hsz, by rw [hU]; exact hP.sub is (k_pick h), hE.warm hW, (hD.sub is hn h).weaken (fun _ _ _ _ => trivial)⟩
/-- calls of methods that write, by invokevirtual (an int, nothing), of a nest mate's constructor -/
theorem kwVI {S : Type} {post : Int32 → S → Prop} {wf : S → va_W} {C : String} (F : kF p s m meth c cc nL ret args own) (hE : kE D T s) (hP : va_P D vwCl W0 H) (hD : va_D A W0) (hS : va_S A H0 H locs) (hA : ∀ q : Nat, H0.size ≤ q → A q) (hl : ls.size = nL) (hM : KI l y bytes maxL ret' fr lo D T (.ref b :: As) w post wf mc ms) (hm : Cond.methodLink own index y ∈ kGW) (hY : kMV C y bytes maxL ret' n) (hR : fr + 1 ≤ R.frames ∧ 8 + (maxL + 11) + lo ≤ R.locals) (isC isR : List Nat) (hnC : va_nd isC = true) (hC : isC.map (fun i => W0[i]?) = w.map some) (hRr : isR.map (fun i => W0[i]?) = wr.map some) (hn1 : va_nd isR = true) (hdis : ∀ i ∈ isR, i ∉ isC) (hb0 : w[0]? = some (b, .inr (ci, fs))) (hci : vwCl[ci]? = some cq) (hq : cq.1 = C) (hn : As.length = n) (hst : st = As.reverse ++ .ref b :: rest) (hW : (rest.map fun v => v.category).sum ≤ 8) (hf : cells + mc ≤ R.cells ∧ slots + ms ≤ R.slots) (hdg : decode cc pc = .ok (.invokevirtual index, 3))
    (kk : ∀ (r : Int32) (u : S) (H1 : Heap) (locs1 : List Loc), post r u → va_P D vwCl (wr ++ wf u) H1 → va_D A (wr ++ wf u) → va_S A H0 H1 locs1 → W p l e R s m args below meth c H1 locs1 (cells + mc) (slots + ms) Q (F0 m (pc + 3) ls (.int r :: rest))) : W p l e R s m args below meth c H locs cells slots Q (F0 m pc ls st) := by
  obtain ⟨f1, f2, f3, f4, f5, f6, f7⟩ := F
  subst hq
  exact kwI (va_runV (As := As) (rest := rest) (nL := nL) ⟨f1, f2, f4, f5, f6⟩ (hM H.size) (cwV n f6 (k_gV hm hY) rfl rfl rfl hY.2.2.2.2 hR) ⟨kWc.blind, va_recv hE.1 (hP.sub isC (k_pick hC)) hci hb0, k_pre hE hP hD rfl isC hnC hC⟩ rfl hn hl hst (lv_room hW) hdg hf) hP hD hS hA isC isR hC hRr hn1 hdis kk
theorem kwVV {S : Type} {post : S → Prop} {wf : S → va_W} {C : String} (F : kF p s m meth c cc nL ret args own) (hE : kE D T s) (hP : va_P D vwCl W0 H) (hD : va_D A W0) (hS : va_S A H0 H locs) (hA : ∀ q : Nat, H0.size ≤ q → A q) (hl : ls.size = nL) (hM : KV l y bytes maxL fr lo D T (.ref b :: As) w post wf mc ms) (hm : Cond.methodLink own index y ∈ kGW) (hY : kMV C y bytes maxL none n) (hR : fr + 1 ≤ R.frames ∧ 8 + (maxL + 11) + lo ≤ R.locals) (isC isR : List Nat) (hnC : va_nd isC = true) (hC : isC.map (fun i => W0[i]?) = w.map some) (hRr : isR.map (fun i => W0[i]?) = wr.map some) (hn1 : va_nd isR = true) (hdis : ∀ i ∈ isR, i ∉ isC) (hb0 : w[0]? = some (b, .inr (ci, fs))) (hci : vwCl[ci]? = some cq) (hq : cq.1 = C) (hn : As.length = n) (hst : st = As.reverse ++ .ref b :: rest) (hW : (rest.map fun v => v.category).sum ≤ 8) (hf : cells + mc ≤ R.cells ∧ slots + ms ≤ R.slots) (hdg : decode cc pc = .ok (.invokevirtual index, 3))
    (kk : ∀ (u : S) (H1 : Heap) (locs1 : List Loc), post u → va_P D vwCl (wr ++ wf u) H1 → va_D A (wr ++ wf u) → va_S A H0 H1 locs1 → W p l e R s m args below meth c H1 locs1 (cells + mc) (slots + ms) Q (F0 m (pc + 3) ls rest)) : W p l e R s m args below meth c H locs cells slots Q (F0 m pc ls st) := by
  obtain ⟨f1, f2, f3, f4, f5, f6, f7⟩ := F
  subst hq
  exact kwV (va_runV (As := As) (rest := rest) (nL := nL) ⟨f1, f2, f4, f5, f6⟩ (hM H.size) (cwV n f6 (k_gV hm hY) rfl rfl rfl hY.2.2.2.2 hR) ⟨kWc.blind, va_recv hE.1 (hP.sub isC (k_pick hC)) hci hb0, k_pre hE hP hD rfl isC hnC hC⟩ rfl hn hl hst (lv_room hW) hdg hf) hP hD hS hA isC isR hC hRr hn1 hdis kk
theorem kwIN {S : Type} {post : S → Prop} {wf : S → va_W} (F : kF p s m meth c cc nL ret args own) (hE : kE D T s) (hP : va_P D vwCl W0 H) (hD : va_D A W0) (hS : va_S A H0 H locs) (hA : ∀ q : Nat, H0.size ≤ q → A q) (hl : ls.size = nL) (hM : KV l y bytes maxL fr lo D T (.ref b :: As) w post wf mc ms) (hY : kMI y bytes maxL n) (hne : (own, index, y, host) ∈ kNest) (hR : fr + 1 ≤ R.frames ∧ 8 + (maxL + 11) + lo ≤ R.locals) (isC isR : List Nat) (hnC : va_nd isC = true) (hC : isC.map (fun i => W0[i]?) = w.map some) (hRr : isR.map (fun i => W0[i]?) = wr.map some) (hn1 : va_nd isR = true) (hdis : ∀ i ∈ isR, i ∉ isC) (hn : As.length = n) (hst : st = As.reverse ++ .ref b :: rest) (hW : (rest.map fun v => v.category).sum ≤ 8) (hf : cells + mc ≤ R.cells ∧ slots + ms ≤ R.slots) (hdg : decode cc pc = .ok (.invokespecial index, 3))
    (kk : ∀ (u : S) (H1 : Heap) (locs1 : List Loc), post u → va_P D vwCl (wr ++ wf u) H1 → va_D A (wr ++ wf u) → va_S A H0 H1 locs1 → W p l e R s m args below meth c H1 locs1 (cells + mc) (slots + ms) Q (F0 m (pc + 3) ls rest)) : W p l e R s m args below meth c H locs cells slots Q (F0 m pc ls st) := by
  obtain ⟨f1, f2, f3, f4, f5, f6, f7⟩ := F
  exact kwV (va_runIN (As := As) (rest := rest) (nL := nL) (host := host) ⟨f1, f2, f4, f5, f6⟩ (hM H.size) ⟨va_cnB n f6 (k_gW hY.2.2.1) rfl rfl rfl (hE.2.1 _ hne) (f6 _ hY.2.1) hY.2.2.2.2 hR, hY.2.2.2.1, f6 _ hY.1⟩ ⟨kWc.blind, k_pre (As := .ref b :: As) hE hP hD rfl isC hnC hC⟩ rfl hn hl hst (lv_room hW) hdg hf) hP hD hS hA isC isR hC hRr hn1 hdis kk
theorem kwII {S : Type} {post : S → Prop} {wf : S → va_W} (F : kF p s m meth c cc nL ret args own) (hE : kE D T s) (hP : va_P D vwCl W0 H) (hD : va_D A W0) (hS : va_S A H0 H locs) (hA : ∀ q : Nat, H0.size ≤ q → A q) (hl : ls.size = nL) (hM : KV l y bytes maxL fr lo D T (.ref b :: As) w post wf mc ms) (hm : Cond.methodLink own index y ∈ kGW) (hY : kMI y bytes maxL n) (hR : fr + 1 ≤ R.frames ∧ 8 + (maxL + 11) + lo ≤ R.locals) (isC isR : List Nat) (hnC : va_nd isC = true) (hC : isC.map (fun i => W0[i]?) = w.map some) (hRr : isR.map (fun i => W0[i]?) = wr.map some) (hn1 : va_nd isR = true) (hdis : ∀ i ∈ isR, i ∉ isC) (hn : As.length = n) (hst : st = As.reverse ++ .ref b :: rest) (hW : (rest.map fun v => v.category).sum ≤ 8) (hf : cells + mc ≤ R.cells ∧ slots + ms ≤ R.slots) (hdg : decode cc pc = .ok (.invokespecial index, 3))
    (kk : ∀ (u : S) (H1 : Heap) (locs1 : List Loc), post u → va_P D vwCl (wr ++ wf u) H1 → va_D A (wr ++ wf u) → va_S A H0 H1 locs1 → W p l e R s m args below meth c H1 locs1 (cells + mc) (slots + ms) Q (F0 m (pc + 3) ls rest)) : W p l e R s m args below meth c H locs cells slots Q (F0 m pc ls st) := by
  obtain ⟨f1, f2, f3, f4, f5, f6, f7⟩ := F
  exact kwV (va_runI (As := As) (rest := rest) (nL := nL) ⟨f1, f2, f4, f5, f6⟩ (hM H.size) (cwI n f6 (k_gW hY.2.2.1) rfl rfl rfl (f6 _ hY.2.1) (f6 _ hm) (f6 _ hY.1) hY.2.2.2.1 hY.2.2.2.2 hR) ⟨kWc.blind, k_pre (As := .ref b :: As) hE hP hD rfl isC hnC hC⟩ rfl hn hl hst (lv_room hW) hdg hf) hP hD hS hA isC isR hC hRr hn1 hdis kk
/-- a new array of a known class -/
theorem k_newa {atype : ArrayType} {ty : FieldType} {cA : ClassId} {t0 : Nat} {a0 : vp_A} {n : Int32} {N' : Nat} (hx : p.tables.exec = Jvm.exec) (hb : c.code = cc) (harr : (Cond.arrayClass ty).before args s = true) (hty : newarray.typeOf atype = ty) (hnar : ∀ cX : ClassId, va_RA s cX ty → s.vm.findClass ("[" ++ ty.toString) = some cX) (hE : kE D T s) (hP : va_P D vwCl W0 H) (hD : va_D A W0) (hS : va_S A H0 H locs) (hA : ∀ q : Nat, H0.size ≤ q → A q) (ht : T[t0]? = some (cA, ty)) (ha : ∀ cA : ClassId, vp_cell cA a0 = arrV cA N' (fun _ => defaultValue ty)) (hn : ¬ n < 0) (hN : n.toNatClampNeg = N') (hbytes : N' * componentBytes ty ≤ 536870912) (hcells : cells + 1 ≤ R.cells) (hslots : slots + N' ≤ R.slots) (hdg : decode cc pc = .ok (.newarray atype, 2))
    (kk : ∀ (q : Nat) (H1 : Heap), va_P D vwCl (W0 ++ [(q, .inl (cA, a0))]) H1 → va_D A (W0 ++ [(q, .inl (cA, a0))]) → va_S A H0 H1 locs → W p l e R s m args below meth c H1 locs (cells + 1) (slots + N') Q (F0 m (pc + 2) ls (.ref q :: rest))) : W p l e R s m args below meth c H locs cells slots Q (F0 m pc ls (.int n :: rest)) := by
  refine va_newa (atype := atype) hx hb (by rw [hty]; exact harr) hty hE.1 hP hD hS hA ha hn hN hbytes hcells hslots hdg (fun q cX H1 hK2 hP2 hD2 hS2 => ?_)
  have h1 := (hE.1.2 t0 _ ht).2
  have h2 := (hK2.2 T.length (cX, ty) (by rw [List.getElem?_append_right (Nat.le_refl _)]; simp)).2
  have e : cX = cA := Option.some.inj ((hnar cX h2).symm.trans (hnar cA h1))
  subst e
  exact kk q H1 hP2 hD2 hS2
theorem k_newq {C : String} {cA : ClassId} {t0 : Nat} {n : Int32} {N' : Nat} (hx : p.tables.exec = Jvm.exec) (hb : c.code = cc) (hown : s.vm.findClass own = some m.cls) (hclink : (Cond.classLink own index C).before args s = true) (hover : va_AO C s) (hE : kE D T s) (hP : va_P D vwCl W0 H) (hD : va_D A W0) (hS : va_S A H0 H locs) (hA : ∀ q : Nat, H0.size ≤ q → A q) (ht : T[t0]? = some (cA, .object C)) (hn : ¬ n < 0) (hN : n.toNatClampNeg = N') (hbytes : N' * 4 ≤ 536870912) (hcells : cells + 1 ≤ R.cells) (hslots : slots + N' ≤ R.slots) (hdg : decode cc pc = .ok (.anewarray index, 3))
    (kk : ∀ (q : Nat) (H1 : Heap), va_P D vwCl (W0 ++ [(q, .inl (cA, N', .inr (.inr (.inr (.inr (fun _ => none))))))]) H1 → va_D A (W0 ++ [(q, .inl (cA, N', .inr (.inr (.inr (.inr (fun _ => none))))))]) → va_S A H0 H1 locs → W p l e R s m args below meth c H1 locs (cells + 1) (slots + N') Q (F0 m (pc + 3) ls (.ref q :: rest))) : W p l e R s m args below meth c H locs cells slots Q (F0 m pc ls (.int n :: rest)) := by
  refine va_newq hx hb hown hclink hover hE.1 hP hD hS hA hn hN hbytes hcells hslots hdg (fun q cX H1 hK2 hP2 hD2 hS2 => ?_)
  obtain ⟨k1, c1, -, -, -, h1⟩ := (hE.1.2 t0 _ ht).2
  obtain ⟨k2, c2, -, -, -, h2⟩ := (hK2.2 T.length (cX, .object C) (by rw [List.getElem?_append_right (Nat.le_refl _)]; simp)).2
  have e : cX = cA := Option.some.inj (h2.symm.trans h1)
  subst e
  exact kk q H1 hP2 hD2 hS2
end KB
/-- the arrays' classes: of ints, longs, bytes, booleans, moments, rules, rows of ints -/
abbrev kTY (cy : Nat → ClassId) : List (ClassId × FieldType) := [(cy 0, .int), (cy 1, .long), (cy 2, .byte), (cy 3, .boolean), (cy 4, .object "StrawButts$Moment"), (cy 5, .object "StrawButts$Rule"), (cy 6, .array .int)]
end
section
theorem q_f_X1_11 : Cond.fieldLink RX1 11 "StrawButts$Field" "cells" "[I" ∈ kGW := kin1 (i := 91) rfl rfl
theorem q_z_X11 : Cond.initialized RX11 ∈ kGW := kin1 (i := 1) rfl rfl
theorem q_c_X11_within : Cond.code yX11_within cX11_within 3 (some .boolean) ∈ kGW := kin2 (i := 97) rfl rfl
theorem q_s_X11_within : Cond.static yX11_within ∈ kGW := kin2 (i := 96) rfl rfl
theorem q_f_X11_43 : Cond.fieldLink RX11 43 "StrawButts" "now" "LStrawButts$Moment;" ∈ kGW := kin2 (i := 50) rfl rfl
theorem q_f_X11_111 : Cond.fieldLink RX11 111 "StrawButts$Moment" "field" "LStrawButts$Field;" ∈ kGW := kin1 (i := 153) rfl rfl
theorem q_m_X11_136 : Cond.methodLink RX11 136 yX1_hasRing ∈ kGW := kin3 (i := 107) rfl rfl
theorem q_z_X1 : Cond.initialized RX1 ∈ kGW := kin1 (i := 4) rfl rfl
theorem q_c_X1_hasRing : Cond.code yX1_hasRing cX1_hasRing 2 (some .boolean) ∈ kGW := kin3 (i := 110) rfl rfl
theorem q_i_X1_hasRing : Cond.instanceMethod yX1_hasRing ∈ kGW := kin3 (i := 108) rfl rfl
theorem q_s_X1_hasRing : Cond.selects RX1 yX1_hasRing yX1_hasRing ∈ kGW := kin3 (i := 109) rfl rfl
theorem q_m_X11_139 : Cond.methodLink RX11 139 yX1_hasArcher ∈ kGW := kin3 (i := 116) rfl rfl
theorem q_c_X1_hasArcher : Cond.code yX1_hasArcher cX1_hasArcher 2 (some .boolean) ∈ kGW := kin3 (i := 119) rfl rfl
theorem q_i_X1_hasArcher : Cond.instanceMethod yX1_hasArcher ∈ kGW := kin3 (i := 117) rfl rfl
theorem q_s_X1_hasArcher : Cond.selects RX1 yX1_hasArcher yX1_hasArcher ∈ kGW := kin3 (i := 118) rfl rfl
theorem q_f_X11_124 : Cond.fieldLink RX11 124 "StrawButts$Field" "cells" "[I" ∈ kGW := kin1 (i := 96) rfl rfl
theorem q_m_X11_90 : Cond.methodLink RX11 90 yX11_within ∈ kGW := kin2 (i := 95) rfl rfl
theorem q_m_X11_152 : Cond.methodLink RX11 152 yX1_isTold ∈ kGW := kin3 (i := 140) rfl rfl
theorem q_c_X1_isTold : Cond.code yX1_isTold cX1_isTold 1 (some .boolean) ∈ kGW := kin3 (i := 143) rfl rfl
theorem q_i_X1_isTold : Cond.instanceMethod yX1_isTold ∈ kGW := kin3 (i := 141) rfl rfl
theorem q_s_X1_isTold : Cond.selects RX1 yX1_isTold yX1_isTold ∈ kGW := kin3 (i := 142) rfl rfl
theorem q_f_X11_54 : Cond.fieldLink RX11 54 "StrawButts" "acts" "LStrawButts$Acts;" ∈ kGW := kin2 (i := 52) rfl rfl
theorem q_f_X11_123 : Cond.fieldLink RX11 123 "StrawButts$Acts" "size" "I" ∈ kGW := kin1 (i := 191) rfl rfl
theorem q_f_X11_36 : Cond.fieldLink RX11 36 "StrawButts" "ruleCount" "I" ∈ kGW := kin2 (i := 49) rfl rfl
theorem q_f_X11_133 : Cond.fieldLink RX11 133 "StrawButts$Moment" "inForce" "I" ∈ kGW := kin1 (i := 161) rfl rfl
theorem q_m_X11_146 : Cond.methodLink RX11 146 yX1_sumOfArchers ∈ kGW := kin3 (i := 132) rfl rfl
theorem q_c_X1_sumOfArchers : Cond.code yX1_sumOfArchers cX1_sumOfArchers 4 (some .int) ∈ kGW := kin3 (i := 135) rfl rfl
theorem q_i_X1_sumOfArchers : Cond.instanceMethod yX1_sumOfArchers ∈ kGW := kin3 (i := 133) rfl rfl
theorem q_s_X1_sumOfArchers : Cond.selects RX1 yX1_sumOfArchers yX1_sumOfArchers ∈ kGW := kin3 (i := 134) rfl rfl
theorem q_f_X11_114 : Cond.fieldLink RX11 114 "StrawButts$Moment" "notes" "LStrawButts$Notes;" ∈ kGW := kin1 (i := 159) rfl rfl
theorem q_f_X11_118 : Cond.fieldLink RX11 118 "StrawButts$Notes" "size" "I" ∈ kGW := kin1 (i := 142) rfl rfl
theorem q_f_X11_149 : Cond.fieldLink RX11 149 "StrawButts$Moment" "x" "I" ∈ kGW := kin1 (i := 163) rfl rfl
theorem q_f_X11_10 : Cond.fieldLink RX11 10 "StrawButts" "tape" "LStrawButts$Tape;" ∈ kGW := kin2 (i := 45) rfl rfl
theorem q_f_X11_87 : Cond.fieldLink RX11 87 "StrawButts$Tape" "length" "I" ∈ kGW := kin1 (i := 37) rfl rfl
theorem q_f_X11_47 : Cond.fieldLink RX11 47 "StrawButts" "images" "[LStrawButts$Moment;" ∈ kGW := kin2 (i := 51) rfl rfl
theorem q_f_X11_273 : Cond.fieldLink RX11 273 "StrawButts$Moment" "isMade" "Z" ∈ kGW := kin1 (i := 165) rfl rfl
theorem q_f_X10_15 : Cond.fieldLink RX10 15 "StrawButts$Tape" "length" "I" ∈ kGW := kin1 (i := 36) rfl rfl
theorem q_f_X10_11 : Cond.fieldLink RX10 11 "StrawButts$Tape" "bytes" "[I" ∈ kGW := kin1 (i := 35) rfl rfl
theorem q_m_X11_79 : Cond.methodLink RX11 79 yX10_hasRoom ∈ kGW := kin2 (i := 83) rfl rfl
theorem q_z_X10 : Cond.initialized RX10 ∈ kGW := kin1 (i := 2) rfl rfl
theorem q_c_X10_hasRoom : Cond.code yX10_hasRoom cX10_hasRoom 2 (some .boolean) ∈ kGW := kin2 (i := 86) rfl rfl
theorem q_i_X10_hasRoom : Cond.instanceMethod yX10_hasRoom ∈ kGW := kin2 (i := 84) rfl rfl
theorem q_s_X10_hasRoom : Cond.selects RX10 yX10_hasRoom yX10_hasRoom ∈ kGW := kin2 (i := 85) rfl rfl
theorem q_m_X11_83 : Cond.methodLink RX11 83 yX10_addBytes ∈ kGW := kin2 (i := 87) rfl rfl
theorem q_c_X10_addBytes : Cond.code yX10_addBytes cX10_addBytes 3 none ∈ kGW := kin2 (i := 90) rfl rfl
theorem q_i_X10_addBytes : Cond.instanceMethod yX10_addBytes ∈ kGW := kin2 (i := 88) rfl rfl
theorem q_s_X10_addBytes : Cond.selects RX10 yX10_addBytes yX10_addBytes ∈ kGW := kin2 (i := 89) rfl rfl
theorem q_f_X10_28 : Cond.fieldLink RX10 28 "StrawButts$Tape" "tokens" "I" ∈ kGW := kin1 (i := 41) rfl rfl
theorem q_f_X10_19 : Cond.fieldLink RX10 19 "StrawButts$Tape" "kinds" "[I" ∈ kGW := kin1 (i := 38) rfl rfl
theorem q_f_X10_22 : Cond.fieldLink RX10 22 "StrawButts$Tape" "values" "[I" ∈ kGW := kin1 (i := 39) rfl rfl
theorem q_f_X10_25 : Cond.fieldLink RX10 25 "StrawButts$Tape" "places" "[I" ∈ kGW := kin1 (i := 40) rfl rfl
theorem q_f_X10_31 : Cond.fieldLink RX10 31 "StrawButts$Tape" "at" "I" ∈ kGW := kin1 (i := 42) rfl rfl
theorem q_f_X10_34 : Cond.fieldLink RX10 34 "StrawButts$Tape" "kind" "I" ∈ kGW := kin1 (i := 43) rfl rfl
theorem q_f_X10_37 : Cond.fieldLink RX10 37 "StrawButts$Tape" "value" "I" ∈ kGW := kin1 (i := 46) rfl rfl
theorem q_f_X10_40 : Cond.fieldLink RX10 40 "StrawButts$Tape" "place" "I" ∈ kGW := kin1 (i := 49) rfl rfl
theorem q_m_X10_50 : Cond.methodLink RX10 50 yX10_addToken ∈ kGW := kin2 (i := 122) rfl rfl
theorem q_c_X10_addToken : Cond.code yX10_addToken cX10_addToken 4 none ∈ kGW := kin2 (i := 125) rfl rfl
theorem q_i_X10_addToken : Cond.instanceMethod yX10_addToken ∈ kGW := kin2 (i := 124) rfl rfl
theorem q_s_X10_addToken : Cond.selects RX10 yX10_addToken yX10_addToken ∈ kGW := kinp (i := 3) rfl rfl
theorem q_f_X10_43 : Cond.fieldLink RX10 43 "StrawButts$Tape" "fault" "I" ∈ kGW := kin1 (i := 52) rfl rfl
theorem q_m_X10_54 : Cond.methodLink RX10 54 yX10_advance ∈ kGW := kin2 (i := 191) rfl rfl
theorem q_c_X10_advance : Cond.code yX10_advance cX10_advance 1 none ∈ kGW := kin2 (i := 194) rfl rfl
theorem q_i_X10_advance : Cond.instanceMethod yX10_advance ∈ kGW := kin2 (i := 192) rfl rfl
theorem q_s_X10_advance : Cond.selects RX10 yX10_advance yX10_advance ∈ kGW := kin2 (i := 193) rfl rfl
theorem q_m_X10_57 : Cond.methodLink RX10 57 yX10_isSign ∈ kGW := kin2 (i := 239) rfl rfl
theorem q_c_X10_isSign : Cond.code yX10_isSign cX10_isSign 2 (some .boolean) ∈ kGW := kin3 (i := 2) rfl rfl
theorem q_i_X10_isSign : Cond.instanceMethod yX10_isSign ∈ kGW := kin3 (i := 0) rfl rfl
theorem q_s_X10_isSign : Cond.selects RX10 yX10_isSign yX10_isSign ∈ kGW := kin3 (i := 1) rfl rfl
theorem q_m_X1_21 : Cond.methodLink RX1 21 yJ7_fill_53178 ∈ kGW := kin2 (i := 199) rfl rfl
theorem q_z_J7 : Cond.initialized RJ7 ∈ kGW := kin1 (i := 17) rfl rfl
theorem q_c_J7_fill_53178 : Cond.code yJ7_fill_53178 cJ7_fill_53178 4 none ∈ kGW := kin2 (i := 201) rfl rfl
theorem q_s_J7_fill_53178 : Cond.static yJ7_fill_53178 ∈ kGW := kin2 (i := 200) rfl rfl
theorem q_f_X3_41 : Cond.fieldLink RX3 41 "StrawButts$Tape" "kind" "I" ∈ kGW := kin1 (i := 44) rfl rfl
theorem q_m_X3_47 : Cond.methodLink RX3 47 yX3_opensClause ∈ kGW := kin2 (i := 206) rfl rfl
theorem q_z_X3 : Cond.initialized RX3 ∈ kGW := kin1 (i := 3) rfl rfl
theorem q_c_X3_opensClause : Cond.code yX3_opensClause cX3_opensClause 1 (some .boolean) ∈ kGW := kin2 (i := 208) rfl rfl
theorem q_s_X3_opensClause : Cond.static yX3_opensClause ∈ kGW := kin2 (i := 207) rfl rfl
theorem q_f_X3_51 : Cond.fieldLink RX3 51 "StrawButts$Tape" "place" "I" ∈ kGW := kin1 (i := 50) rfl rfl
theorem q_m_X3_54 : Cond.methodLink RX3 54 yX10_failAt ∈ kGW := kin2 (i := 209) rfl rfl
theorem q_c_X10_failAt : Cond.code yX10_failAt cX10_failAt 3 none ∈ kGW := kin2 (i := 212) rfl rfl
theorem q_i_X10_failAt : Cond.instanceMethod yX10_failAt ∈ kGW := kin2 (i := 210) rfl rfl
theorem q_s_X10_failAt : Cond.selects RX10 yX10_failAt yX10_failAt ∈ kGW := kin2 (i := 211) rfl rfl
theorem q_m_X3_18 : Cond.methodLink RX3 18 yX10_open ∈ kGW := kin2 (i := 106) rfl rfl
theorem q_c_X10_open : Cond.code yX10_open cX10_open 3 none ∈ kGW := kin2 (i := 109) rfl rfl
theorem q_i_X10_open : Cond.instanceMethod yX10_open ∈ kGW := kin2 (i := 107) rfl rfl
theorem q_s_X10_open : Cond.selects RX10 yX10_open yX10_open ∈ kGW := kin2 (i := 108) rfl rfl
theorem q_f_X3_12 : Cond.fieldLink RX3 12 "StrawButts$GreenReader" "draft" "LStrawButts$Field;" ∈ kGW := kin1 (i := 101) rfl rfl
theorem q_m_X3_23 : Cond.methodLink RX3 23 yX1_clear ∈ kGW := kin2 (i := 195) rfl rfl
theorem q_c_X1_clear : Cond.code yX1_clear cX1_clear 1 none ∈ kGW := kin2 (i := 198) rfl rfl
theorem q_i_X1_clear : Cond.instanceMethod yX1_clear ∈ kGW := kin2 (i := 196) rfl rfl
theorem q_s_X1_clear : Cond.selects RX1 yX1_clear yX1_clear ∈ kGW := kin2 (i := 197) rfl rfl
theorem q_m_X3_26 : Cond.methodLink RX3 26 yX3_readClause ∈ kGW := kin2 (i := 202) rfl rfl
theorem q_c_X3_readClause : Cond.code yX3_readClause cX3_readClause 4 none ∈ kGW := kin2 (i := 205) rfl rfl
theorem q_i_X3_readClause : Cond.instanceMethod yX3_readClause ∈ kGW := kin2 (i := 204) rfl rfl
theorem q_s_X3_readClause : Cond.selects RX3 yX3_readClause yX3_readClause ∈ kGW := kinp (i := 8) rfl rfl
theorem q_m_X3_30 : Cond.methodLink RX3 30 yX10_hasNextClause ∈ kGW := kin2 (i := 235) rfl rfl
theorem q_c_X10_hasNextClause : Cond.code yX10_hasNextClause cX10_hasNextClause 2 (some .boolean) ∈ kGW := kin2 (i := 238) rfl rfl
theorem q_i_X10_hasNextClause : Cond.instanceMethod yX10_hasNextClause ∈ kGW := kin2 (i := 236) rfl rfl
theorem q_s_X10_hasNextClause : Cond.selects RX10 yX10_hasNextClause yX10_hasNextClause ∈ kGW := kin2 (i := 237) rfl rfl
theorem q_f_X3_34 : Cond.fieldLink RX3 34 "StrawButts$Tape" "fault" "I" ∈ kGW := kin1 (i := 53) rfl rfl
theorem q_f_X11_19 : Cond.fieldLink RX11 19 "StrawButts" "greenReader" "LStrawButts$GreenReader;" ∈ kGW := kin2 (i := 46) rfl rfl
theorem q_m_X11_94 : Cond.methodLink RX11 94 yX3_readFrom ∈ kGW := kin2 (i := 102) rfl rfl
theorem q_c_X3_readFrom : Cond.code yX3_readFrom cX3_readFrom 3 (some .int) ∈ kGW := kin2 (i := 105) rfl rfl
theorem q_i_X3_readFrom : Cond.instanceMethod yX3_readFrom ∈ kGW := kin2 (i := 103) rfl rfl
theorem q_s_X3_readFrom : Cond.selects RX3 yX3_readFrom yX3_readFrom ∈ kGW := kin2 (i := 104) rfl rfl
theorem q_m_X8_49 : Cond.methodLink RX8 49 yX10_isWord ∈ kGW := kin3 (i := 29) rfl rfl
theorem q_c_X10_isWord : Cond.code yX10_isWord cX10_isWord 2 (some .boolean) ∈ kGW := kin3 (i := 32) rfl rfl
theorem q_i_X10_isWord : Cond.instanceMethod yX10_isWord ∈ kGW := kin3 (i := 30) rfl rfl
theorem q_s_X10_isWord : Cond.selects RX10 yX10_isWord yX10_isWord ∈ kGW := kin3 (i := 31) rfl rfl
theorem q_f_X8_53 : Cond.fieldLink RX8 53 "StrawButts$Tape" "place" "I" ∈ kGW := kin1 (i := 51) rfl rfl
theorem q_m_X8_56 : Cond.methodLink RX8 56 yX10_failAt ∈ kGW := kin3 (i := 33) rfl rfl
theorem q_m_X8_24 : Cond.methodLink RX8 24 yX10_open ∈ kGW := kin3 (i := 24) rfl rfl
theorem q_f_X8_17 : Cond.fieldLink RX8 17 "StrawButts$RuleReader" "size" "I" ∈ kGW := kin1 (i := 113) rfl rfl
theorem q_f_X8_21 : Cond.fieldLink RX8 21 "StrawButts$RuleReader" "parts" "I" ∈ kGW := kin1 (i := 114) rfl rfl
theorem q_m_X8_27 : Cond.methodLink RX8 27 yX8_readClause ∈ kGW := kin3 (i := 25) rfl rfl
theorem q_z_X8 : Cond.initialized RX8 ∈ kGW := kin1 (i := 5) rfl rfl
theorem q_c_X8_readClause : Cond.code yX8_readClause cX8_readClause 3 none ∈ kGW := kin3 (i := 28) rfl rfl
theorem q_i_X8_readClause : Cond.instanceMethod yX8_readClause ∈ kGW := kin3 (i := 27) rfl rfl
theorem q_s_X8_readClause : Cond.selects RX8 yX8_readClause yX8_readClause ∈ kGW := kinp (i := 14) rfl rfl
theorem q_m_X8_31 : Cond.methodLink RX8 31 yX10_hasNextClause ∈ kGW := kin3 (i := 66) rfl rfl
theorem q_f_X8_35 : Cond.fieldLink RX8 35 "StrawButts$Tape" "fault" "I" ∈ kGW := kin1 (i := 54) rfl rfl
theorem q_f_X11_26 : Cond.fieldLink RX11 26 "StrawButts" "ruleReader" "LStrawButts$RuleReader;" ∈ kGW := kin2 (i := 47) rfl rfl
theorem q_m_X11_128 : Cond.methodLink RX11 128 yX8_readFrom ∈ kGW := kin3 (i := 20) rfl rfl
theorem q_c_X8_readFrom : Cond.code yX8_readFrom cX8_readFrom 3 (some .int) ∈ kGW := kin3 (i := 23) rfl rfl
theorem q_i_X8_readFrom : Cond.instanceMethod yX8_readFrom ∈ kGW := kin3 (i := 21) rfl rfl
theorem q_s_X8_readFrom : Cond.selects RX8 yX8_readFrom yX8_readFrom ∈ kGW := kin3 (i := 22) rfl rfl
theorem q_m_X1_15 : Cond.methodLink RX1 15 arraycopyName ∈ kGW := kin3 (i := 12) rfl rfl
theorem q_n_arraycopyName : Cond.native arraycopyName ∈ kGW := kin3 (i := 14) rfl rfl
theorem q_s_arraycopyName : Cond.static arraycopyName ∈ kGW := kin3 (i := 13) rfl rfl
theorem q_z_java_lang_System : Cond.initialized "java/lang/System" ∈ kGW := kin1 (i := 18) rfl rfl
theorem q_f_X5_11 : Cond.fieldLink RX5 11 "StrawButts$Notes" "rounds" "[I" ∈ kGW := kin1 (i := 138) rfl rfl
theorem q_m_X5_25 : Cond.methodLink RX5 25 arraycopyName ∈ kGW := kin4 (i := 197) rfl rfl
theorem q_f_X5_15 : Cond.fieldLink RX5 15 "StrawButts$Notes" "archers" "[I" ∈ kGW := kin1 (i := 139) rfl rfl
theorem q_f_X5_18 : Cond.fieldLink RX5 18 "StrawButts$Notes" "places" "[I" ∈ kGW := kin1 (i := 140) rfl rfl
theorem q_f_X5_21 : Cond.fieldLink RX5 21 "StrawButts$Notes" "size" "I" ∈ kGW := kin1 (i := 141) rfl rfl
theorem q_f_X4_12 : Cond.fieldLink RX4 12 "StrawButts$Moment" "field" "LStrawButts$Field;" ∈ kGW := kin1 (i := 152) rfl rfl
theorem q_m_X4_39 : Cond.methodLink RX4 39 yX1_copyFrom ∈ kGW := kin4 (i := 192) rfl rfl
theorem q_c_X1_copyFrom : Cond.code yX1_copyFrom cX1_copyFrom 2 none ∈ kGW := kin3 (i := 11) rfl rfl
theorem q_i_X1_copyFrom : Cond.instanceMethod yX1_copyFrom ∈ kGW := kin3 (i := 9) rfl rfl
theorem q_s_X1_copyFrom : Cond.selects RX1 yX1_copyFrom yX1_copyFrom ∈ kGW := kin3 (i := 10) rfl rfl
theorem q_f_X4_18 : Cond.fieldLink RX4 18 "StrawButts$Moment" "begin" "LStrawButts$Field;" ∈ kGW := kin1 (i := 154) rfl rfl
theorem q_f_X4_24 : Cond.fieldLink RX4 24 "StrawButts$Moment" "notes" "LStrawButts$Notes;" ∈ kGW := kin1 (i := 157) rfl rfl
theorem q_m_X4_43 : Cond.methodLink RX4 43 yX5_copyFrom ∈ kGW := kin4 (i := 193) rfl rfl
theorem q_z_X5 : Cond.initialized RX5 ∈ kGW := kin1 (i := 7) rfl rfl
theorem q_c_X5_copyFrom : Cond.code yX5_copyFrom cX5_copyFrom 2 none ∈ kGW := kin4 (i := 196) rfl rfl
theorem q_i_X5_copyFrom : Cond.instanceMethod yX5_copyFrom ∈ kGW := kin4 (i := 194) rfl rfl
theorem q_s_X5_copyFrom : Cond.selects RX5 yX5_copyFrom yX5_copyFrom ∈ kGW := kin4 (i := 195) rfl rfl
theorem q_f_X4_28 : Cond.fieldLink RX4 28 "StrawButts$Moment" "inForce" "I" ∈ kGW := kin1 (i := 160) rfl rfl
theorem q_f_X4_32 : Cond.fieldLink RX4 32 "StrawButts$Moment" "x" "I" ∈ kGW := kin1 (i := 162) rfl rfl
theorem q_m_X11_270 : Cond.methodLink RX11 270 yX4_copyFrom ∈ kGW := kin4 (i := 188) rfl rfl
theorem q_z_X4 : Cond.initialized RX4 ∈ kGW := kin1 (i := 6) rfl rfl
theorem q_c_X4_copyFrom : Cond.code yX4_copyFrom cX4_copyFrom 2 none ∈ kGW := kin4 (i := 191) rfl rfl
theorem q_i_X4_copyFrom : Cond.instanceMethod yX4_copyFrom ∈ kGW := kin4 (i := 189) rfl rfl
theorem q_s_X4_copyFrom : Cond.selects RX4 yX4_copyFrom yX4_copyFrom ∈ kGW := kin4 (i := 190) rfl rfl
theorem q_f_X12_39 : Cond.fieldLink RX12 39 "StrawButtsModel" "said" "[I" ∈ kGW := kin4 (i := 228) rfl rfl
theorem q_f_X12_267 : Cond.fieldLink RX12 267 "StrawButtsModel" "rules" "I" ∈ kGW := kin4 (i := 210) rfl rfl
theorem q_m_X12_294 : Cond.methodLink RX12 294 yX12_isGreen ∈ kGW := kin6 (i := 70) rfl rfl
theorem q_z_X12 : Cond.initialized RX12 ∈ kGW := kin1 (i := 12) rfl rfl
theorem q_c_X12_isGreen : Cond.code yX12_isGreen cX12_isGreen 1 (some .boolean) ∈ kGW := kin6 (i := 73) rfl rfl
theorem q_i_X12_isGreen : Cond.instanceMethod yX12_isGreen ∈ kGW := kin6 (i := 72) rfl rfl
theorem q_s_X12_isGreen : Cond.selects RX12 yX12_isGreen yX12_isGreen ∈ kGW := kinp (i := 68) rfl rfl
theorem q_m_X12_309 : Cond.methodLink RX12 309 yX12_isRing ∈ kGW := kin6 (i := 37) rfl rfl
theorem q_c_X12_isRing : Cond.code yX12_isRing cX12_isRing 2 (some .boolean) ∈ kGW := kin6 (i := 40) rfl rfl
theorem q_i_X12_isRing : Cond.instanceMethod yX12_isRing ∈ kGW := kin6 (i := 39) rfl rfl
theorem q_s_X12_isRing : Cond.selects RX12 yX12_isRing yX12_isRing ∈ kGW := kinp (i := 62) rfl rfl
theorem q_m_X12_314 : Cond.methodLink RX12 314 yX12_isArcher ∈ kGW := kin6 (i := 46) rfl rfl
theorem q_c_X12_isArcher : Cond.code yX12_isArcher cX12_isArcher 2 (some .boolean) ∈ kGW := kin6 (i := 49) rfl rfl
theorem q_i_X12_isArcher : Cond.instanceMethod yX12_isArcher ∈ kGW := kin6 (i := 48) rfl rfl
theorem q_s_X12_isArcher : Cond.selects RX12 yX12_isArcher yX12_isArcher ∈ kGW := kinp (i := 63) rfl rfl
theorem q_f_X12_276 : Cond.fieldLink RX12 276 "StrawButtsModel" "undone" "I" ∈ kGW := kin4 (i := 235) rfl rfl
theorem q_m_X12_323 : Cond.methodLink RX12 323 yX12_comingRound ∈ kGW := kin6 (i := 66) rfl rfl
theorem q_c_X12_comingRound : Cond.code yX12_comingRound cX12_comingRound 1 (some .int) ∈ kGW := kin6 (i := 69) rfl rfl
theorem q_i_X12_comingRound : Cond.instanceMethod yX12_comingRound ∈ kGW := kin6 (i := 68) rfl rfl
theorem q_s_X12_comingRound : Cond.selects RX12 yX12_comingRound yX12_comingRound ∈ kGW := kinp (i := 67) rfl rfl
theorem q_f_X12_42 : Cond.fieldLink RX12 42 "StrawButtsModel" "force" "I" ∈ kGW := kin4 (i := 229) rfl rfl
theorem q_m_X12_381 : Cond.methodLink RX12 381 yX12_sumOver ∈ kGW := kin6 (i := 192) rfl rfl
theorem q_c_X12_sumOver : Cond.code yX12_sumOver cX12_sumOver 4 (some .int) ∈ kGW := kin6 (i := 195) rfl rfl
theorem q_i_X12_sumOver : Cond.instanceMethod yX12_sumOver ∈ kGW := kin6 (i := 194) rfl rfl
theorem q_s_X12_sumOver : Cond.selects RX12 yX12_sumOver yX12_sumOver ∈ kGW := kinp (i := 89) rfl rfl
theorem q_f_X12_442 : Cond.fieldLink RX12 442 "StrawButtsModel" "x" "I" ∈ kGW := kin4 (i := 230) rfl rfl
theorem q_f_X12_89 : Cond.fieldLink RX12 89 "StrawButtsModel" "taped" "I" ∈ kGW := kin4 (i := 209) rfl rfl
theorem ms_X11_within : kMS yX11_within cX11_within 3 (some .boolean) 3 := ⟨q_s_X11_within, q_z_X11, q_c_X11_within, by decide +kernel⟩
theorem mv_X1_hasRing : kMV RX1 yX1_hasRing cX1_hasRing 2 (some .boolean) 1 := ⟨q_i_X1_hasRing, q_s_X1_hasRing, q_z_X1, q_c_X1_hasRing, by decide +kernel⟩
theorem mv_X1_hasArcher : kMV RX1 yX1_hasArcher cX1_hasArcher 2 (some .boolean) 1 := ⟨q_i_X1_hasArcher, q_s_X1_hasArcher, q_z_X1, q_c_X1_hasArcher, by decide +kernel⟩
theorem mv_X1_isTold : kMV RX1 yX1_isTold cX1_isTold 1 (some .boolean) 0 := ⟨q_i_X1_isTold, q_s_X1_isTold, q_z_X1, q_c_X1_isTold, by decide +kernel⟩
theorem mv_X1_sumOfArchers : kMV RX1 yX1_sumOfArchers cX1_sumOfArchers 4 (some .int) 1 := ⟨q_i_X1_sumOfArchers, q_s_X1_sumOfArchers, q_z_X1, q_c_X1_sumOfArchers, by decide +kernel⟩
theorem mv_X10_hasRoom : kMV RX10 yX10_hasRoom cX10_hasRoom 2 (some .boolean) 1 := ⟨q_i_X10_hasRoom, q_s_X10_hasRoom, q_z_X10, q_c_X10_hasRoom, by decide +kernel⟩
theorem mv_X10_addBytes : kMV RX10 yX10_addBytes cX10_addBytes 3 none 1 := ⟨q_i_X10_addBytes, q_s_X10_addBytes, q_z_X10, q_c_X10_addBytes, by decide +kernel⟩
theorem mv_X10_addToken : kMV RX10 yX10_addToken cX10_addToken 4 none 3 := ⟨q_i_X10_addToken, q_s_X10_addToken, q_z_X10, q_c_X10_addToken, by decide +kernel⟩
theorem mv_X10_advance : kMV RX10 yX10_advance cX10_advance 1 none 0 := ⟨q_i_X10_advance, q_s_X10_advance, q_z_X10, q_c_X10_advance, by decide +kernel⟩
theorem mv_X10_isSign : kMV RX10 yX10_isSign cX10_isSign 2 (some .boolean) 1 := ⟨q_i_X10_isSign, q_s_X10_isSign, q_z_X10, q_c_X10_isSign, by decide +kernel⟩
theorem ms_J7_fill_53178 : kMS yJ7_fill_53178 cJ7_fill_53178 4 none 2 := ⟨q_s_J7_fill_53178, q_z_J7, q_c_J7_fill_53178, by decide +kernel⟩
theorem ms_X3_opensClause : kMS yX3_opensClause cX3_opensClause 1 (some .boolean) 1 := ⟨q_s_X3_opensClause, q_z_X3, q_c_X3_opensClause, by decide +kernel⟩
theorem mv_X10_failAt : kMV RX10 yX10_failAt cX10_failAt 3 none 2 := ⟨q_i_X10_failAt, q_s_X10_failAt, q_z_X10, q_c_X10_failAt, by decide +kernel⟩
theorem mv_X10_open : kMV RX10 yX10_open cX10_open 3 none 0 := ⟨q_i_X10_open, q_s_X10_open, q_z_X10, q_c_X10_open, by decide +kernel⟩
theorem mv_X1_clear : kMV RX1 yX1_clear cX1_clear 1 none 0 := ⟨q_i_X1_clear, q_s_X1_clear, q_z_X1, q_c_X1_clear, by decide +kernel⟩
theorem mv_X3_readClause : kMV RX3 yX3_readClause cX3_readClause 4 none 2 := ⟨q_i_X3_readClause, q_s_X3_readClause, q_z_X3, q_c_X3_readClause, by decide +kernel⟩
theorem mv_X10_hasNextClause : kMV RX10 yX10_hasNextClause cX10_hasNextClause 2 (some .boolean) 0 := ⟨q_i_X10_hasNextClause, q_s_X10_hasNextClause, q_z_X10, q_c_X10_hasNextClause, by decide +kernel⟩
theorem mv_X3_readFrom : kMV RX3 yX3_readFrom cX3_readFrom 3 (some .int) 1 := ⟨q_i_X3_readFrom, q_s_X3_readFrom, q_z_X3, q_c_X3_readFrom, by decide +kernel⟩
theorem mv_X10_isWord : kMV RX10 yX10_isWord cX10_isWord 2 (some .boolean) 1 := ⟨q_i_X10_isWord, q_s_X10_isWord, q_z_X10, q_c_X10_isWord, by decide +kernel⟩
theorem mv_X8_readClause : kMV RX8 yX8_readClause cX8_readClause 3 none 2 := ⟨q_i_X8_readClause, q_s_X8_readClause, q_z_X8, q_c_X8_readClause, by decide +kernel⟩
theorem mv_X8_readFrom : kMV RX8 yX8_readFrom cX8_readFrom 3 (some .int) 1 := ⟨q_i_X8_readFrom, q_s_X8_readFrom, q_z_X8, q_c_X8_readFrom, by decide +kernel⟩
theorem mv_X1_copyFrom : kMV RX1 yX1_copyFrom cX1_copyFrom 2 none 1 := ⟨q_i_X1_copyFrom, q_s_X1_copyFrom, q_z_X1, q_c_X1_copyFrom, by decide +kernel⟩
theorem mv_X5_copyFrom : kMV RX5 yX5_copyFrom cX5_copyFrom 2 none 1 := ⟨q_i_X5_copyFrom, q_s_X5_copyFrom, q_z_X5, q_c_X5_copyFrom, by decide +kernel⟩
theorem mv_X4_copyFrom : kMV RX4 yX4_copyFrom cX4_copyFrom 2 none 1 := ⟨q_i_X4_copyFrom, q_s_X4_copyFrom, q_z_X4, q_c_X4_copyFrom, by decide +kernel⟩
theorem mv_X12_isGreen : kMV RX12 yX12_isGreen cX12_isGreen 1 (some .boolean) 0 := ⟨q_i_X12_isGreen, q_s_X12_isGreen, q_z_X12, q_c_X12_isGreen, by decide +kernel⟩
theorem mv_X12_isRing : kMV RX12 yX12_isRing cX12_isRing 2 (some .boolean) 1 := ⟨q_i_X12_isRing, q_s_X12_isRing, q_z_X12, q_c_X12_isRing, by decide +kernel⟩
theorem mv_X12_isArcher : kMV RX12 yX12_isArcher cX12_isArcher 2 (some .boolean) 1 := ⟨q_i_X12_isArcher, q_s_X12_isArcher, q_z_X12, q_c_X12_isArcher, by decide +kernel⟩
theorem mv_X12_comingRound : kMV RX12 yX12_comingRound cX12_comingRound 1 (some .int) 0 := ⟨q_i_X12_comingRound, q_s_X12_comingRound, q_z_X12, q_c_X12_comingRound, by decide +kernel⟩
theorem mv_X12_sumOver : kMV RX12 yX12_sumOver cX12_sumOver 4 (some .int) 1 := ⟨q_i_X12_sumOver, q_s_X12_sumOver, q_z_X12, q_c_X12_sumOver, by decide +kernel⟩
theorem inG_X0 : ∀ w ∈ u_ws RX0 TX0 3, w ∈ kGW := List.forall_mem_cons.mpr ⟨kin1 (i := 192) rfl rfl, List.forall_mem_cons.mpr ⟨kin1 (i := 194) rfl rfl, List.forall_mem_cons.mpr ⟨kin1 (i := 196) rfl rfl, fun _ h => absurd h List.not_mem_nil⟩⟩⟩
theorem dfX0 : ∀ j, j < 3 → defaultValue (tyX0 j) = vp_V [.null, .int 0, .int 0] j := fun j hj => match j, hj with
  | 0, _ => rfl
  | 1, _ => rfl
  | 2, _ => rfl
  | q + 3, h => absurd h (by omega)
theorem inG_X1 : ∀ w ∈ u_ws RX1 TX1 1, w ∈ kGW := List.forall_mem_cons.mpr ⟨kin1 (i := 98) rfl rfl, fun _ h => absurd h List.not_mem_nil⟩
theorem dfX1 : ∀ j, j < 1 → defaultValue (tyX1 j) = vp_V [.null] j := fun j hj => match j, hj with
  | 0, _ => rfl
  | q + 1, h => absurd h (by omega)
theorem inG_X2 : ∀ w ∈ u_ws RX2 TX2 5, w ∈ kGW := List.forall_mem_cons.mpr ⟨kin2 (i := 15) rfl rfl, List.forall_mem_cons.mpr ⟨kin2 (i := 17) rfl rfl, List.forall_mem_cons.mpr ⟨kin2 (i := 19) rfl rfl, List.forall_mem_cons.mpr ⟨kin2 (i := 21) rfl rfl, List.forall_mem_cons.mpr ⟨kin2 (i := 23) rfl rfl, fun _ h => absurd h List.not_mem_nil⟩⟩⟩⟩⟩
theorem dfX2 : ∀ j, j < 5 → defaultValue (tyX2 j) = vp_V [.int 0, .int 0, .int 0, .null, .null] j := fun j hj => match j, hj with
  | 0, _ => rfl
  | 1, _ => rfl
  | 2, _ => rfl
  | 3, _ => rfl
  | 4, _ => rfl
  | q + 5, h => absurd h (by omega)
theorem inG_X3 : ∀ w ∈ u_ws RX3 TX3 1, w ∈ kGW := List.forall_mem_cons.mpr ⟨kin1 (i := 103) rfl rfl, fun _ h => absurd h List.not_mem_nil⟩
theorem dfX3 : ∀ j, j < 1 → defaultValue (tyX3 j) = vp_V [.null] j := fun j hj => match j, hj with
  | 0, _ => rfl
  | q + 1, h => absurd h (by omega)
theorem inG_X4 : ∀ w ∈ u_ws RX4 TX4 6, w ∈ kGW := List.forall_mem_cons.mpr ⟨kin1 (i := 166) rfl rfl, List.forall_mem_cons.mpr ⟨kin1 (i := 168) rfl rfl, List.forall_mem_cons.mpr ⟨kin1 (i := 170) rfl rfl, List.forall_mem_cons.mpr ⟨kin1 (i := 172) rfl rfl, List.forall_mem_cons.mpr ⟨kin1 (i := 174) rfl rfl, List.forall_mem_cons.mpr ⟨kin1 (i := 176) rfl rfl, fun _ h => absurd h List.not_mem_nil⟩⟩⟩⟩⟩⟩
theorem dfX4 : ∀ j, j < 6 → defaultValue (tyX4 j) = vp_V [.null, .null, .null, .int 0, .int 0, .int 0] j := fun j hj => match j, hj with
  | 0, _ => rfl
  | 1, _ => rfl
  | 2, _ => rfl
  | 3, _ => rfl
  | 4, _ => rfl
  | 5, _ => rfl
  | q + 6, h => absurd h (by omega)
theorem inG_X5 : ∀ w ∈ u_ws RX5 TX5 4, w ∈ kGW := List.forall_mem_cons.mpr ⟨kin1 (i := 143) rfl rfl, List.forall_mem_cons.mpr ⟨kin1 (i := 145) rfl rfl, List.forall_mem_cons.mpr ⟨kin1 (i := 147) rfl rfl, List.forall_mem_cons.mpr ⟨kin1 (i := 149) rfl rfl, fun _ h => absurd h List.not_mem_nil⟩⟩⟩⟩
theorem dfX5 : ∀ j, j < 4 → defaultValue (tyX5 j) = vp_V [.null, .null, .null, .int 0] j := fun j hj => match j, hj with
  | 0, _ => rfl
  | 1, _ => rfl
  | 2, _ => rfl
  | 3, _ => rfl
  | q + 4, h => absurd h (by omega)
theorem inG_X6 : ∀ w ∈ u_ws RX6 TX6 8, w ∈ kGW := List.forall_mem_cons.mpr ⟨kin1 (i := 223) rfl rfl, List.forall_mem_cons.mpr ⟨kin1 (i := 225) rfl rfl, List.forall_mem_cons.mpr ⟨kin1 (i := 227) rfl rfl, List.forall_mem_cons.mpr ⟨kin1 (i := 229) rfl rfl, List.forall_mem_cons.mpr ⟨kin1 (i := 231) rfl rfl, List.forall_mem_cons.mpr ⟨kin1 (i := 233) rfl rfl, List.forall_mem_cons.mpr ⟨kin1 (i := 235) rfl rfl, List.forall_mem_cons.mpr ⟨kin1 (i := 237) rfl rfl, fun _ h => absurd h List.not_mem_nil⟩⟩⟩⟩⟩⟩⟩⟩
theorem dfX6 : ∀ j, j < 8 → defaultValue (tyX6 j) = vp_V [.null, .null, .null, .int 0, .int 0, .null, .null, .null] j := fun j hj => match j, hj with
  | 0, _ => rfl
  | 1, _ => rfl
  | 2, _ => rfl
  | 3, _ => rfl
  | 4, _ => rfl
  | 5, _ => rfl
  | 6, _ => rfl
  | 7, _ => rfl
  | q + 8, h => absurd h (by omega)
theorem inG_X7 : ∀ w ∈ u_ws RX7 TX7 2, w ∈ kGW := List.forall_mem_cons.mpr ⟨kin3 (i := 94) rfl rfl, List.forall_mem_cons.mpr ⟨kin3 (i := 96) rfl rfl, fun _ h => absurd h List.not_mem_nil⟩⟩
theorem dfX7 : ∀ j, j < 2 → defaultValue (tyX7 j) = vp_V [.null, .int 0] j := fun j hj => match j, hj with
  | 0, _ => rfl
  | 1, _ => rfl
  | q + 2, h => absurd h (by omega)
theorem inG_X8 : ∀ w ∈ u_ws RX8 TX8 3, w ∈ kGW := List.forall_mem_cons.mpr ⟨kin1 (i := 115) rfl rfl, List.forall_mem_cons.mpr ⟨kin1 (i := 117) rfl rfl, List.forall_mem_cons.mpr ⟨kin1 (i := 119) rfl rfl, fun _ h => absurd h List.not_mem_nil⟩⟩⟩
theorem dfX8 : ∀ j, j < 3 → defaultValue (tyX8 j) = vp_V [.null, .int 0, .int 0] j := fun j hj => match j, hj with
  | 0, _ => rfl
  | 1, _ => rfl
  | 2, _ => rfl
  | q + 3, h => absurd h (by omega)
theorem inG_X9 : ∀ w ∈ u_ws RX9 TX9 3, w ∈ kGW := List.forall_mem_cons.mpr ⟨kin2 (i := 38) rfl rfl, List.forall_mem_cons.mpr ⟨kin2 (i := 40) rfl rfl, List.forall_mem_cons.mpr ⟨kin2 (i := 42) rfl rfl, fun _ h => absurd h List.not_mem_nil⟩⟩⟩
theorem dfX9 : ∀ j, j < 3 → defaultValue (tyX9 j) = vp_V [.int 0, .int 0, .null] j := fun j hj => match j, hj with
  | 0, _ => rfl
  | 1, _ => rfl
  | 2, _ => rfl
  | q + 3, h => absurd h (by omega)
theorem inG_X10 : ∀ w ∈ u_ws RX10 TX10 11, w ∈ kGW := List.forall_mem_cons.mpr ⟨kin1 (i := 55) rfl rfl, List.forall_mem_cons.mpr ⟨kin1 (i := 57) rfl rfl, List.forall_mem_cons.mpr ⟨kin1 (i := 59) rfl rfl, List.forall_mem_cons.mpr ⟨kin1 (i := 61) rfl rfl, List.forall_mem_cons.mpr ⟨kin1 (i := 63) rfl rfl, List.forall_mem_cons.mpr ⟨kin1 (i := 65) rfl rfl, List.forall_mem_cons.mpr ⟨kin1 (i := 67) rfl rfl, List.forall_mem_cons.mpr ⟨kin1 (i := 69) rfl rfl, List.forall_mem_cons.mpr ⟨kin1 (i := 71) rfl rfl, List.forall_mem_cons.mpr ⟨kin1 (i := 73) rfl rfl, List.forall_mem_cons.mpr ⟨kin1 (i := 75) rfl rfl, fun _ h => absurd h List.not_mem_nil⟩⟩⟩⟩⟩⟩⟩⟩⟩⟩⟩
theorem dfX10 : ∀ j, j < 11 → defaultValue (tyX10 j) = vp_V [.null, .int 0, .null, .null, .null, .int 0, .int 0, .int 0, .int 0, .int 0, .int 0] j := fun j hj => match j, hj with
  | 0, _ => rfl
  | 1, _ => rfl
  | 2, _ => rfl
  | 3, _ => rfl
  | 4, _ => rfl
  | 5, _ => rfl
  | 6, _ => rfl
  | 7, _ => rfl
  | 8, _ => rfl
  | 9, _ => rfl
  | 10, _ => rfl
  | q + 11, h => absurd h (by omega)
theorem inG_X11 : ∀ w ∈ u_ws RX11 TX11 11, w ∈ kGW := List.forall_mem_cons.mpr ⟨kin2 (i := 56) rfl rfl, List.forall_mem_cons.mpr ⟨kin2 (i := 58) rfl rfl, List.forall_mem_cons.mpr ⟨kin2 (i := 60) rfl rfl, List.forall_mem_cons.mpr ⟨kin2 (i := 62) rfl rfl, List.forall_mem_cons.mpr ⟨kin2 (i := 64) rfl rfl, List.forall_mem_cons.mpr ⟨kin2 (i := 66) rfl rfl, List.forall_mem_cons.mpr ⟨kin2 (i := 68) rfl rfl, List.forall_mem_cons.mpr ⟨kin2 (i := 70) rfl rfl, List.forall_mem_cons.mpr ⟨kin2 (i := 72) rfl rfl, List.forall_mem_cons.mpr ⟨kin2 (i := 74) rfl rfl, List.forall_mem_cons.mpr ⟨kin2 (i := 76) rfl rfl, fun _ h => absurd h List.not_mem_nil⟩⟩⟩⟩⟩⟩⟩⟩⟩⟩⟩
theorem dfX11 : ∀ j, j < 11 → defaultValue (tyX11 j) = vp_V [.null, .null, .null, .null, .int 0, .null, .null, .null, .null, .null, .null] j := fun j hj => match j, hj with
  | 0, _ => rfl
  | 1, _ => rfl
  | 2, _ => rfl
  | 3, _ => rfl
  | 4, _ => rfl
  | 5, _ => rfl
  | 6, _ => rfl
  | 7, _ => rfl
  | 8, _ => rfl
  | 9, _ => rfl
  | 10, _ => rfl
  | q + 11, h => absurd h (by omega)
theorem inG_X12 : ∀ w ∈ u_ws RX12 TX12 39, w ∈ kGW := List.forall_mem_cons.mpr ⟨kin5 (i := 7) rfl rfl, List.forall_mem_cons.mpr ⟨kin5 (i := 9) rfl rfl, List.forall_mem_cons.mpr ⟨kin5 (i := 11) rfl rfl, List.forall_mem_cons.mpr ⟨kin5 (i := 13) rfl rfl, List.forall_mem_cons.mpr ⟨kin5 (i := 15) rfl rfl, List.forall_mem_cons.mpr ⟨kin5 (i := 17) rfl rfl, List.forall_mem_cons.mpr ⟨kin5 (i := 19) rfl rfl, List.forall_mem_cons.mpr ⟨kin5 (i := 21) rfl rfl, List.forall_mem_cons.mpr ⟨kin5 (i := 23) rfl rfl, List.forall_mem_cons.mpr ⟨kin5 (i := 25) rfl rfl, List.forall_mem_cons.mpr ⟨kin5 (i := 27) rfl rfl, List.forall_mem_cons.mpr ⟨kin5 (i := 29) rfl rfl, List.forall_mem_cons.mpr ⟨kin5 (i := 31) rfl rfl, List.forall_mem_cons.mpr ⟨kin5 (i := 33) rfl rfl, List.forall_mem_cons.mpr ⟨kin5 (i := 35) rfl rfl, List.forall_mem_cons.mpr ⟨kin5 (i := 37) rfl rfl, List.forall_mem_cons.mpr ⟨kin5 (i := 39) rfl rfl, List.forall_mem_cons.mpr ⟨kin5 (i := 41) rfl rfl, List.forall_mem_cons.mpr ⟨kin5 (i := 43) rfl rfl, List.forall_mem_cons.mpr ⟨kin5 (i := 45) rfl rfl, List.forall_mem_cons.mpr ⟨kin5 (i := 47) rfl rfl, List.forall_mem_cons.mpr ⟨kin5 (i := 49) rfl rfl, List.forall_mem_cons.mpr ⟨kin5 (i := 51) rfl rfl, List.forall_mem_cons.mpr ⟨kin5 (i := 53) rfl rfl, List.forall_mem_cons.mpr ⟨kin5 (i := 55) rfl rfl, List.forall_mem_cons.mpr ⟨kin5 (i := 57) rfl rfl, List.forall_mem_cons.mpr ⟨kin5 (i := 59) rfl rfl, List.forall_mem_cons.mpr ⟨kin5 (i := 61) rfl rfl, List.forall_mem_cons.mpr ⟨kin5 (i := 63) rfl rfl, List.forall_mem_cons.mpr ⟨kin5 (i := 65) rfl rfl, List.forall_mem_cons.mpr ⟨kin5 (i := 67) rfl rfl, List.forall_mem_cons.mpr ⟨kin5 (i := 69) rfl rfl, List.forall_mem_cons.mpr ⟨kin5 (i := 71) rfl rfl, List.forall_mem_cons.mpr ⟨kin5 (i := 73) rfl rfl, List.forall_mem_cons.mpr ⟨kin5 (i := 75) rfl rfl, List.forall_mem_cons.mpr ⟨kin5 (i := 77) rfl rfl, List.forall_mem_cons.mpr ⟨kin5 (i := 79) rfl rfl, List.forall_mem_cons.mpr ⟨kin5 (i := 81) rfl rfl, List.forall_mem_cons.mpr ⟨kin5 (i := 83) rfl rfl, fun _ h => absurd h List.not_mem_nil⟩⟩⟩⟩⟩⟩⟩⟩⟩⟩⟩⟩⟩⟩⟩⟩⟩⟩⟩⟩⟩⟩⟩⟩⟩⟩⟩⟩⟩⟩⟩⟩⟩⟩⟩⟩⟩⟩⟩
theorem dfX12 : ∀ j, j < 39 → defaultValue (tyX12 j) = vp_V [.null, .int 0, .int 0, .null, .null, .null, .null, .null, .int 0, .int 0, .int 0, .int 0, .int 0, .int 0, .int 0, .null, .int 0, .null, .int 0, .null, .null, .int 0, .int 0, .int 0, .null, .null, .null, .int 0, .null, .null, .null, .null, .null, .null, .long 0, .null, .null, .null, .null] j := fun j hj => match j, hj with
  | 0, _ => rfl
  | 1, _ => rfl
  | 2, _ => rfl
  | 3, _ => rfl
  | 4, _ => rfl
  | 5, _ => rfl
  | 6, _ => rfl
  | 7, _ => rfl
  | 8, _ => rfl
  | 9, _ => rfl
  | 10, _ => rfl
  | 11, _ => rfl
  | 12, _ => rfl
  | 13, _ => rfl
  | 14, _ => rfl
  | 15, _ => rfl
  | 16, _ => rfl
  | 17, _ => rfl
  | 18, _ => rfl
  | 19, _ => rfl
  | 20, _ => rfl
  | 21, _ => rfl
  | 22, _ => rfl
  | 23, _ => rfl
  | 24, _ => rfl
  | 25, _ => rfl
  | 26, _ => rfl
  | 27, _ => rfl
  | 28, _ => rfl
  | 29, _ => rfl
  | 30, _ => rfl
  | 31, _ => rfl
  | 32, _ => rfl
  | 33, _ => rfl
  | 34, _ => rfl
  | 35, _ => rfl
  | 36, _ => rfl
  | 37, _ => rfl
  | 38, _ => rfl
  | q + 39, h => absurd h (by omega)
end
section
theorem dX12_in_0 : decode cX12_in 0 = .ok (.lload_n 0, 1) := by decide +kernel
theorem dX12_in_1 : decode cX12_in 1 = .ok (.lload_n 2, 1) := by decide +kernel
theorem dX12_in_2 : decode cX12_in 2 = .ok (.lcmp, 1) := by decide +kernel
theorem dX12_in_3 : decode cX12_in 3 = .ok (.ifCond .lt 14, 3) := by decide +kernel
theorem dX12_in_6 : decode cX12_in 6 = .ok (.lload_n 0, 1) := by decide +kernel
theorem dX12_in_7 : decode cX12_in 7 = .ok (.lload 4, 2) := by decide +kernel
theorem dX12_in_9 : decode cX12_in 9 = .ok (.lcmp, 1) := by decide +kernel
theorem dX12_in_10 : decode cX12_in 10 = .ok (.ifCond .gt 7, 3) := by decide +kernel
theorem dX12_in_13 : decode cX12_in 13 = .ok (.iconst 1, 1) := by decide +kernel
theorem dX12_in_14 : decode cX12_in 14 = .ok (.goto 4, 3) := by decide +kernel
theorem dX12_in_17 : decode cX12_in 17 = .ok (.iconst 0, 1) := by decide +kernel
theorem dX12_in_18 : decode cX12_in 18 = .ok (.ireturn, 1) := by decide +kernel
theorem dX11_end_0 : decode cX11_end 0 = .ok (.iload_n 1, 1) := by decide +kernel
theorem dX11_end_1 : decode cX11_end 1 = .ok (.iconst 0, 1) := by decide +kernel
theorem dX11_end_2 : decode cX11_end 2 = .ok (.aload_n 0, 1) := by decide +kernel
theorem dX11_end_3 : decode cX11_end 3 = .ok (.getfield 10, 3) := by decide +kernel
theorem dX11_end_6 : decode cX11_end 6 = .ok (.getfield 87, 3) := by decide +kernel
theorem dX11_end_9 : decode cX11_end 9 = .ok (.invokestatic 90, 3) := by decide +kernel
theorem dX11_end_12 : decode cX11_end 12 = .ok (.ifCond .ne 5, 3) := by decide +kernel
theorem dX11_end_15 : decode cX11_end 15 = .ok (.iconst (-1), 1) := by decide +kernel
theorem dX11_end_16 : decode cX11_end 16 = .ok (.ireturn, 1) := by decide +kernel
theorem dX11_end_17 : decode cX11_end 17 = .ok (.aload_n 0, 1) := by decide +kernel
theorem dX11_end_18 : decode cX11_end 18 = .ok (.getfield 10, 3) := by decide +kernel
theorem dX11_end_21 : decode cX11_end 21 = .ok (.iload_n 1, 1) := by decide +kernel
theorem dX11_end_22 : decode cX11_end 22 = .ok (.putfield 87, 3) := by decide +kernel
theorem dX11_end_25 : decode cX11_end 25 = .ok (.iload_n 1, 1) := by decide +kernel
theorem dX11_end_26 : decode cX11_end 26 = .ok (.ireturn, 1) := by decide +kernel
theorem dX11_row_0 : decode cX11_row 0 = .ok (.aload_n 0, 1) := by decide +kernel
theorem dX11_row_1 : decode cX11_row 1 = .ok (.getfield 43, 3) := by decide +kernel
theorem dX11_row_4 : decode cX11_row 4 = .ok (.getfield 111, 3) := by decide +kernel
theorem dX11_row_7 : decode cX11_row 7 = .ok (.iload_n 1, 1) := by decide +kernel
theorem dX11_row_8 : decode cX11_row 8 = .ok (.invokevirtual 139, 3) := by decide +kernel
theorem dX11_row_11 : decode cX11_row 11 = .ok (.ifCond .eq 21, 3) := by decide +kernel
theorem dX11_row_14 : decode cX11_row 14 = .ok (.iload_n 2, 1) := by decide +kernel
theorem dX11_row_15 : decode cX11_row 15 = .ok (.iconst 1, 1) := by decide +kernel
theorem dX11_row_16 : decode cX11_row 16 = .ok (.iconst 5, 1) := by decide +kernel
theorem dX11_row_17 : decode cX11_row 17 = .ok (.invokestatic 90, 3) := by decide +kernel
theorem dX11_row_20 : decode cX11_row 20 = .ok (.ifCond .eq 12, 3) := by decide +kernel
theorem dX11_row_23 : decode cX11_row 23 = .ok (.iload_n 3, 1) := by decide +kernel
theorem dX11_row_24 : decode cX11_row 24 = .ok (.iconst 0, 1) := by decide +kernel
theorem dX11_row_25 : decode cX11_row 25 = .ok (.iconst 5, 1) := by decide +kernel
theorem dX11_row_26 : decode cX11_row 26 = .ok (.invokestatic 90, 3) := by decide +kernel
theorem dX11_row_29 : decode cX11_row 29 = .ok (.ifCond .ne 6, 3) := by decide +kernel
theorem dX11_row_32 : decode cX11_row 32 = .ok (.bipush (-3), 2) := by decide +kernel
theorem dX11_row_34 : decode cX11_row 34 = .ok (.ireturn, 1) := by decide +kernel
theorem dX11_row_35 : decode cX11_row 35 = .ok (.aload_n 0, 1) := by decide +kernel
theorem dX11_row_36 : decode cX11_row 36 = .ok (.getfield 43, 3) := by decide +kernel
theorem dX11_row_39 : decode cX11_row 39 = .ok (.getfield 111, 3) := by decide +kernel
theorem dX11_row_42 : decode cX11_row 42 = .ok (.getfield 124, 3) := by decide +kernel
theorem dX11_row_45 : decode cX11_row 45 = .ok (.bipush 58, 2) := by decide +kernel
theorem dX11_row_47 : decode cX11_row 47 = .ok (.iload_n 1, 1) := by decide +kernel
theorem dX11_row_48 : decode cX11_row 48 = .ok (.iadd, 1) := by decide +kernel
theorem dX11_row_49 : decode cX11_row 49 = .ok (.iaload, 1) := by decide +kernel
theorem dX11_row_50 : decode cX11_row 50 = .ok (.iconst 1, 1) := by decide +kernel
theorem dX11_row_51 : decode cX11_row 51 = .ok (.if_icmp .ge 6, 3) := by decide +kernel
theorem dX11_row_54 : decode cX11_row 54 = .ok (.bipush (-3), 2) := by decide +kernel
theorem dX11_row_56 : decode cX11_row 56 = .ok (.ireturn, 1) := by decide +kernel
theorem dX11_row_57 : decode cX11_row 57 = .ok (.iload_n 3, 1) := by decide +kernel
theorem dX11_row_58 : decode cX11_row 58 = .ok (.iload_n 2, 1) := by decide +kernel
theorem dX11_row_59 : decode cX11_row 59 = .ok (.if_icmp .le 8, 3) := by decide +kernel
theorem dX11_row_62 : decode cX11_row 62 = .ok (.bipush (-2), 2) := by decide +kernel
theorem dX11_row_64 : decode cX11_row 64 = .ok (.goto 20, 3) := by decide +kernel
theorem dX11_row_67 : decode cX11_row 67 = .ok (.aload_n 0, 1) := by decide +kernel
theorem dX11_row_68 : decode cX11_row 68 = .ok (.getfield 68, 3) := by decide +kernel
theorem dX11_row_71 : decode cX11_row 71 = .ok (.aload_n 0, 1) := by decide +kernel
theorem dX11_row_72 : decode cX11_row 72 = .ok (.getfield 43, 3) := by decide +kernel
theorem dX11_row_75 : decode cX11_row 75 = .ok (.getfield 111, 3) := by decide +kernel
theorem dX11_row_78 : decode cX11_row 78 = .ok (.iload_n 1, 1) := by decide +kernel
theorem dX11_row_79 : decode cX11_row 79 = .ok (.iload_n 2, 1) := by decide +kernel
theorem dX11_row_80 : decode cX11_row 80 = .ok (.iload_n 3, 1) := by decide +kernel
theorem dX11_row_81 : decode cX11_row 81 = .ok (.invokevirtual 200, 3) := by decide +kernel
theorem dX11_row_84 : decode cX11_row 84 = .ok (.ireturn, 1) := by decide +kernel
theorem dX11_set_0 : decode cX11_set 0 = .ok (.aload_n 0, 1) := by decide +kernel
theorem dX11_set_1 : decode cX11_set 1 = .ok (.getfield 43, 3) := by decide +kernel
theorem dX11_set_4 : decode cX11_set 4 = .ok (.getfield 111, 3) := by decide +kernel
theorem dX11_set_7 : decode cX11_set 7 = .ok (.iload_n 1, 1) := by decide +kernel
theorem dX11_set_8 : decode cX11_set 8 = .ok (.invokevirtual 136, 3) := by decide +kernel
theorem dX11_set_11 : decode cX11_set 11 = .ok (.ifCond .eq 22, 3) := by decide +kernel
theorem dX11_set_14 : decode cX11_set 14 = .ok (.iload_n 2, 1) := by decide +kernel
theorem dX11_set_15 : decode cX11_set 15 = .ok (.iconst 1, 1) := by decide +kernel
theorem dX11_set_16 : decode cX11_set 16 = .ok (.bipush 40, 2) := by decide +kernel
theorem dX11_set_18 : decode cX11_set 18 = .ok (.invokestatic 90, 3) := by decide +kernel
theorem dX11_set_21 : decode cX11_set 21 = .ok (.ifCond .eq 12, 3) := by decide +kernel
theorem dX11_set_24 : decode cX11_set 24 = .ok (.iload_n 3, 1) := by decide +kernel
theorem dX11_set_25 : decode cX11_set 25 = .ok (.iconst 0, 1) := by decide +kernel
theorem dX11_set_26 : decode cX11_set 26 = .ok (.iconst 1, 1) := by decide +kernel
theorem dX11_set_27 : decode cX11_set 27 = .ok (.invokestatic 90, 3) := by decide +kernel
theorem dX11_set_30 : decode cX11_set 30 = .ok (.ifCond .ne 5, 3) := by decide +kernel
theorem dX11_set_33 : decode cX11_set 33 = .ok (.iconst (-1), 1) := by decide +kernel
theorem dX11_set_34 : decode cX11_set 34 = .ok (.ireturn, 1) := by decide +kernel
theorem dX11_set_35 : decode cX11_set 35 = .ok (.aload_n 0, 1) := by decide +kernel
theorem dX11_set_36 : decode cX11_set 36 = .ok (.getfield 68, 3) := by decide +kernel
theorem dX11_set_39 : decode cX11_set 39 = .ok (.aload_n 0, 1) := by decide +kernel
theorem dX11_set_40 : decode cX11_set 40 = .ok (.getfield 61, 3) := by decide +kernel
theorem dX11_set_43 : decode cX11_set 43 = .ok (.aload_n 0, 1) := by decide +kernel
theorem dX11_set_44 : decode cX11_set 44 = .ok (.getfield 43, 3) := by decide +kernel
theorem dX11_set_47 : decode cX11_set 47 = .ok (.getfield 111, 3) := by decide +kernel
theorem dX11_set_50 : decode cX11_set 50 = .ok (.aload_n 0, 1) := by decide +kernel
theorem dX11_set_51 : decode cX11_set 51 = .ok (.invokevirtual 159, 3) := by decide +kernel
theorem dX11_set_54 : decode cX11_set 54 = .ok (.iload_n 1, 1) := by decide +kernel
theorem dX11_set_55 : decode cX11_set 55 = .ok (.iload_n 2, 1) := by decide +kernel
theorem dX11_set_56 : decode cX11_set 56 = .ok (.invokevirtual 207, 3) := by decide +kernel
theorem dX11_set_59 : decode cX11_set 59 = .ok (.iload_n 3, 1) := by decide +kernel
theorem dX11_set_60 : decode cX11_set 60 = .ok (.ifCond .ne 13, 3) := by decide +kernel
theorem dX11_set_63 : decode cX11_set 63 = .ok (.aload_n 0, 1) := by decide +kernel
theorem dX11_set_64 : decode cX11_set 64 = .ok (.getfield 68, 3) := by decide +kernel
theorem dX11_set_67 : decode cX11_set 67 = .ok (.getfield 211, 3) := by decide +kernel
theorem dX11_set_70 : decode cX11_set 70 = .ok (.goto 10, 3) := by decide +kernel
theorem dX11_set_73 : decode cX11_set 73 = .ok (.aload_n 0, 1) := by decide +kernel
theorem dX11_set_74 : decode cX11_set 74 = .ok (.getfield 68, 3) := by decide +kernel
theorem dX11_set_77 : decode cX11_set 77 = .ok (.getfield 214, 3) := by decide +kernel
theorem dX11_set_80 : decode cX11_set 80 = .ok (.ireturn, 1) := by decide +kernel
theorem dX12_row_0 : decode cX12_row 0 = .ok (.aload_n 0, 1) := by decide +kernel
theorem dX12_row_1 : decode cX12_row 1 = .ok (.iload_n 1, 1) := by decide +kernel
theorem dX12_row_2 : decode cX12_row 2 = .ok (.invokevirtual 314, 3) := by decide +kernel
theorem dX12_row_5 : decode cX12_row 5 = .ok (.ifCond .eq 35, 3) := by decide +kernel
theorem dX12_row_8 : decode cX12_row 8 = .ok (.aload_n 0, 1) := by decide +kernel
theorem dX12_row_9 : decode cX12_row 9 = .ok (.iload_n 1, 1) := by decide +kernel
theorem dX12_row_10 : decode cX12_row 10 = .ok (.invokevirtual 320, 3) := by decide +kernel
theorem dX12_row_13 : decode cX12_row 13 = .ok (.ifCond .eq 27, 3) := by decide +kernel
theorem dX12_row_16 : decode cX12_row 16 = .ok (.iload_n 2, 1) := by decide +kernel
theorem dX12_row_17 : decode cX12_row 17 = .ok (.i2l, 1) := by decide +kernel
theorem dX12_row_18 : decode cX12_row 18 = .ok (.lconst 1, 1) := by decide +kernel
theorem dX12_row_19 : decode cX12_row 19 = .ok (.ldc2_w 399, 3) := by decide +kernel
theorem dX12_row_22 : decode cX12_row 22 = .ok (.invokestatic 127, 3) := by decide +kernel
theorem dX12_row_25 : decode cX12_row 25 = .ok (.ifCond .eq 15, 3) := by decide +kernel
theorem dX12_row_28 : decode cX12_row 28 = .ok (.iload_n 3, 1) := by decide +kernel
theorem dX12_row_29 : decode cX12_row 29 = .ok (.i2l, 1) := by decide +kernel
theorem dX12_row_30 : decode cX12_row 30 = .ok (.lconst 0, 1) := by decide +kernel
theorem dX12_row_31 : decode cX12_row 31 = .ok (.ldc2_w 399, 3) := by decide +kernel
theorem dX12_row_34 : decode cX12_row 34 = .ok (.invokestatic 127, 3) := by decide +kernel
theorem dX12_row_37 : decode cX12_row 37 = .ok (.ifCond .ne 6, 3) := by decide +kernel
theorem dX12_row_40 : decode cX12_row 40 = .ok (.bipush (-3), 2) := by decide +kernel
theorem dX12_row_42 : decode cX12_row 42 = .ok (.ireturn, 1) := by decide +kernel
theorem dX12_row_43 : decode cX12_row 43 = .ok (.aload_n 0, 1) := by decide +kernel
theorem dX12_row_44 : decode cX12_row 44 = .ok (.iload_n 1, 1) := by decide +kernel
theorem dX12_row_45 : decode cX12_row 45 = .ok (.iload_n 2, 1) := by decide +kernel
theorem dX12_row_46 : decode cX12_row 46 = .ok (.invokevirtual 401, 3) := by decide +kernel
theorem dX12_row_49 : decode cX12_row 49 = .ok (.istore 4, 2) := by decide +kernel
theorem dX12_row_51 : decode cX12_row 51 = .ok (.iload_n 3, 1) := by decide +kernel
theorem dX12_row_52 : decode cX12_row 52 = .ok (.ifCond .ne 8, 3) := by decide +kernel
theorem dX12_row_55 : decode cX12_row 55 = .ok (.iload 4, 2) := by decide +kernel
theorem dX12_row_57 : decode cX12_row 57 = .ok (.goto 21, 3) := by decide +kernel
theorem dX12_row_60 : decode cX12_row 60 = .ok (.iload_n 3, 1) := by decide +kernel
theorem dX12_row_61 : decode cX12_row 61 = .ok (.iload_n 2, 1) := by decide +kernel
theorem dX12_row_62 : decode cX12_row 62 = .ok (.if_icmp .gt 14, 3) := by decide +kernel
theorem dX12_row_65 : decode cX12_row 65 = .ok (.aload_n 0, 1) := by decide +kernel
theorem dX12_row_66 : decode cX12_row 66 = .ok (.getfield 64, 3) := by decide +kernel
theorem dX12_row_69 : decode cX12_row 69 = .ok (.iload_n 3, 1) := by decide +kernel
theorem dX12_row_70 : decode cX12_row 70 = .ok (.iconst 1, 1) := by decide +kernel
theorem dX12_row_71 : decode cX12_row 71 = .ok (.isub, 1) := by decide +kernel
theorem dX12_row_72 : decode cX12_row 72 = .ok (.iaload, 1) := by decide +kernel
theorem dX12_row_73 : decode cX12_row 73 = .ok (.goto 5, 3) := by decide +kernel
theorem dX12_row_76 : decode cX12_row 76 = .ok (.bipush (-2), 2) := by decide +kernel
theorem dX12_row_78 : decode cX12_row 78 = .ok (.ireturn, 1) := by decide +kernel
theorem dX12_set_0 : decode cX12_set 0 = .ok (.aload_n 0, 1) := by decide +kernel
theorem dX12_set_1 : decode cX12_set 1 = .ok (.iload_n 1, 1) := by decide +kernel
theorem dX12_set_2 : decode cX12_set 2 = .ok (.invokevirtual 309, 3) := by decide +kernel
theorem dX12_set_5 : decode cX12_set 5 = .ok (.ifCond .eq 25, 3) := by decide +kernel
theorem dX12_set_8 : decode cX12_set 8 = .ok (.iload_n 2, 1) := by decide +kernel
theorem dX12_set_9 : decode cX12_set 9 = .ok (.i2l, 1) := by decide +kernel
theorem dX12_set_10 : decode cX12_set 10 = .ok (.lconst 1, 1) := by decide +kernel
theorem dX12_set_11 : decode cX12_set 11 = .ok (.ldc2_w 404, 3) := by decide +kernel
theorem dX12_set_14 : decode cX12_set 14 = .ok (.invokestatic 127, 3) := by decide +kernel
theorem dX12_set_17 : decode cX12_set 17 = .ok (.ifCond .eq 13, 3) := by decide +kernel
theorem dX12_set_20 : decode cX12_set 20 = .ok (.iload_n 3, 1) := by decide +kernel
theorem dX12_set_21 : decode cX12_set 21 = .ok (.i2l, 1) := by decide +kernel
theorem dX12_set_22 : decode cX12_set 22 = .ok (.lconst 0, 1) := by decide +kernel
theorem dX12_set_23 : decode cX12_set 23 = .ok (.lconst 1, 1) := by decide +kernel
theorem dX12_set_24 : decode cX12_set 24 = .ok (.invokestatic 127, 3) := by decide +kernel
theorem dX12_set_27 : decode cX12_set 27 = .ok (.ifCond .ne 5, 3) := by decide +kernel
theorem dX12_set_30 : decode cX12_set 30 = .ok (.iconst (-1), 1) := by decide +kernel
theorem dX12_set_31 : decode cX12_set 31 = .ok (.ireturn, 1) := by decide +kernel
theorem dX12_set_32 : decode cX12_set 32 = .ok (.aload_n 0, 1) := by decide +kernel
theorem dX12_set_33 : decode cX12_set 33 = .ok (.invokevirtual 372, 3) := by decide +kernel
theorem dX12_set_36 : decode cX12_set 36 = .ok (.aload_n 0, 1) := by decide +kernel
theorem dX12_set_37 : decode cX12_set 37 = .ok (.getfield 39, 3) := by decide +kernel
theorem dX12_set_40 : decode cX12_set 40 = .ok (.bipush 13, 2) := by decide +kernel
theorem dX12_set_42 : decode cX12_set 42 = .ok (.iload_n 1, 1) := by decide +kernel
theorem dX12_set_43 : decode cX12_set 43 = .ok (.iadd, 1) := by decide +kernel
theorem dX12_set_44 : decode cX12_set 44 = .ok (.iaload, 1) := by decide +kernel
theorem dX12_set_45 : decode cX12_set 45 = .ok (.istore 4, 2) := by decide +kernel
theorem dX12_set_47 : decode cX12_set 47 = .ok (.aload_n 0, 1) := by decide +kernel
theorem dX12_set_48 : decode cX12_set 48 = .ok (.iload_n 2, 1) := by decide +kernel
theorem dX12_set_49 : decode cX12_set 49 = .ok (.invokevirtual 406, 3) := by decide +kernel
theorem dX12_set_52 : decode cX12_set 52 = .ok (.istore 5, 2) := by decide +kernel
theorem dX12_set_54 : decode cX12_set 54 = .ok (.iconst 0, 1) := by decide +kernel
theorem dX12_set_55 : decode cX12_set 55 = .ok (.istore 6, 2) := by decide +kernel
theorem dX12_set_57 : decode cX12_set 57 = .ok (.iload 6, 2) := by decide +kernel
theorem dX12_set_59 : decode cX12_set 59 = .ok (.aload_n 0, 1) := by decide +kernel
theorem dX12_set_60 : decode cX12_set 60 = .ok (.getfield 39, 3) := by decide +kernel
theorem dX12_set_63 : decode cX12_set 63 = .ok (.iconst 1, 1) := by decide +kernel
theorem dX12_set_64 : decode cX12_set 64 = .ok (.iaload, 1) := by decide +kernel
theorem dX12_set_65 : decode cX12_set 65 = .ok (.if_icmp .ge 57, 3) := by decide +kernel
theorem dX12_set_68 : decode cX12_set 68 = .ok (.aload_n 0, 1) := by decide +kernel
theorem dX12_set_69 : decode cX12_set 69 = .ok (.iload 6, 2) := by decide +kernel
theorem dX12_set_71 : decode cX12_set 71 = .ok (.invokevirtual 345, 3) := by decide +kernel
theorem dX12_set_74 : decode cX12_set 74 = .ok (.ifCond .lt 6, 3) := by decide +kernel
theorem dX12_set_77 : decode cX12_set 77 = .ok (.goto 39, 3) := by decide +kernel
theorem dX12_set_80 : decode cX12_set 80 = .ok (.aload_n 0, 1) := by decide +kernel
theorem dX12_set_81 : decode cX12_set 81 = .ok (.getfield 39, 3) := by decide +kernel
theorem dX12_set_84 : decode cX12_set 84 = .ok (.bipush 13, 2) := by decide +kernel
theorem dX12_set_86 : decode cX12_set 86 = .ok (.iload_n 1, 1) := by decide +kernel
theorem dX12_set_87 : decode cX12_set 87 = .ok (.iadd, 1) := by decide +kernel
theorem dX12_set_88 : decode cX12_set 88 = .ok (.iload 6, 2) := by decide +kernel
theorem dX12_set_90 : decode cX12_set 90 = .ok (.iastore, 1) := by decide +kernel
theorem dX12_set_91 : decode cX12_set 91 = .ok (.aload_n 0, 1) := by decide +kernel
theorem dX12_set_92 : decode cX12_set 92 = .ok (.iload_n 2, 1) := by decide +kernel
theorem dX12_set_93 : decode cX12_set 93 = .ok (.invokevirtual 406, 3) := by decide +kernel
theorem dX12_set_96 : decode cX12_set 96 = .ok (.istore 7, 2) := by decide +kernel
theorem dX12_set_98 : decode cX12_set 98 = .ok (.iload 7, 2) := by decide +kernel
theorem dX12_set_100 : decode cX12_set 100 = .ok (.iload 5, 2) := by decide +kernel
theorem dX12_set_102 : decode cX12_set 102 = .ok (.if_icmp .gt 6, 3) := by decide +kernel
theorem dX12_set_105 : decode cX12_set 105 = .ok (.goto 11, 3) := by decide +kernel
theorem dX12_set_108 : decode cX12_set 108 = .ok (.iload 6, 2) := by decide +kernel
theorem dX12_set_110 : decode cX12_set 110 = .ok (.istore 4, 2) := by decide +kernel
theorem dX12_set_112 : decode cX12_set 112 = .ok (.iload 7, 2) := by decide +kernel
theorem dX12_set_114 : decode cX12_set 114 = .ok (.istore 5, 2) := by decide +kernel
theorem dX12_set_116 : decode cX12_set 116 = .ok (.iinc 6 1, 3) := by decide +kernel
theorem dX12_set_119 : decode cX12_set 119 = .ok (.goto (-62), 3) := by decide +kernel
theorem dX12_set_122 : decode cX12_set 122 = .ok (.iload_n 3, 1) := by decide +kernel
theorem dX12_set_123 : decode cX12_set 123 = .ok (.ifCond .ne 8, 3) := by decide +kernel
theorem dX12_set_126 : decode cX12_set 126 = .ok (.iload 4, 2) := by decide +kernel
theorem dX12_set_128 : decode cX12_set 128 = .ok (.goto 5, 3) := by decide +kernel
theorem dX12_set_131 : decode cX12_set 131 = .ok (.iload 5, 2) := by decide +kernel
theorem dX12_set_133 : decode cX12_set 133 = .ok (.ireturn, 1) := by decide +kernel
theorem dX10_open_0 : decode cX10_open 0 = .ok (.aload_n 0, 1) := by decide +kernel
theorem dX10_open_1 : decode cX10_open 1 = .ok (.iconst 0, 1) := by decide +kernel
theorem dX10_open_2 : decode cX10_open 2 = .ok (.putfield 28, 3) := by decide +kernel
theorem dX10_open_5 : decode cX10_open 5 = .ok (.iconst 0, 1) := by decide +kernel
theorem dX10_open_6 : decode cX10_open 6 = .ok (.istore_n 1, 1) := by decide +kernel
theorem dX10_open_7 : decode cX10_open 7 = .ok (.iconst 0, 1) := by decide +kernel
theorem dX10_open_8 : decode cX10_open 8 = .ok (.istore_n 2, 1) := by decide +kernel
theorem dX10_open_9 : decode cX10_open 9 = .ok (.iload_n 2, 1) := by decide +kernel
theorem dX10_open_10 : decode cX10_open 10 = .ok (.sipush 400, 3) := by decide +kernel
theorem dX10_open_13 : decode cX10_open 13 = .ok (.if_icmp .ge 40, 3) := by decide +kernel
theorem dX10_open_16 : decode cX10_open 16 = .ok (.iload_n 1, 1) := by decide +kernel
theorem dX10_open_17 : decode cX10_open 17 = .ok (.aload_n 0, 1) := by decide +kernel
theorem dX10_open_18 : decode cX10_open 18 = .ok (.getfield 15, 3) := by decide +kernel
theorem dX10_open_21 : decode cX10_open 21 = .ok (.if_icmp .ge 32, 3) := by decide +kernel
theorem dX10_open_24 : decode cX10_open 24 = .ok (.aload_n 0, 1) := by decide +kernel
theorem dX10_open_25 : decode cX10_open 25 = .ok (.getfield 11, 3) := by decide +kernel
theorem dX10_open_28 : decode cX10_open 28 = .ok (.iload_n 1, 1) := by decide +kernel
theorem dX10_open_29 : decode cX10_open 29 = .ok (.iaload, 1) := by decide +kernel
theorem dX10_open_30 : decode cX10_open 30 = .ok (.bipush 32, 2) := by decide +kernel
theorem dX10_open_32 : decode cX10_open 32 = .ok (.if_icmp .ne 9, 3) := by decide +kernel
theorem dX10_open_35 : decode cX10_open 35 = .ok (.iload_n 1, 1) := by decide +kernel
theorem dX10_open_36 : decode cX10_open 36 = .ok (.iconst 1, 1) := by decide +kernel
theorem dX10_open_37 : decode cX10_open 37 = .ok (.iadd, 1) := by decide +kernel
theorem dX10_open_38 : decode cX10_open 38 = .ok (.goto 8, 3) := by decide +kernel
theorem dX10_open_41 : decode cX10_open 41 = .ok (.aload_n 0, 1) := by decide +kernel
theorem dX10_open_42 : decode cX10_open 42 = .ok (.iload_n 1, 1) := by decide +kernel
theorem dX10_open_43 : decode cX10_open 43 = .ok (.invokevirtual 46, 3) := by decide +kernel
theorem dX10_open_46 : decode cX10_open 46 = .ok (.istore_n 1, 1) := by decide +kernel
theorem dX10_open_47 : decode cX10_open 47 = .ok (.iinc 2 1, 3) := by decide +kernel
theorem dX10_open_50 : decode cX10_open 50 = .ok (.goto (-41), 3) := by decide +kernel
theorem dX10_open_53 : decode cX10_open 53 = .ok (.aload_n 0, 1) := by decide +kernel
theorem dX10_open_54 : decode cX10_open 54 = .ok (.iconst 0, 1) := by decide +kernel
theorem dX10_open_55 : decode cX10_open 55 = .ok (.iconst 0, 1) := by decide +kernel
theorem dX10_open_56 : decode cX10_open 56 = .ok (.aload_n 0, 1) := by decide +kernel
theorem dX10_open_57 : decode cX10_open 57 = .ok (.getfield 15, 3) := by decide +kernel
theorem dX10_open_60 : decode cX10_open 60 = .ok (.invokevirtual 50, 3) := by decide +kernel
theorem dX10_open_63 : decode cX10_open 63 = .ok (.aload_n 0, 1) := by decide +kernel
theorem dX10_open_64 : decode cX10_open 64 = .ok (.iconst 0, 1) := by decide +kernel
theorem dX10_open_65 : decode cX10_open 65 = .ok (.putfield 43, 3) := by decide +kernel
theorem dX10_open_68 : decode cX10_open 68 = .ok (.aload_n 0, 1) := by decide +kernel
theorem dX10_open_69 : decode cX10_open 69 = .ok (.iconst (-1), 1) := by decide +kernel
theorem dX10_open_70 : decode cX10_open 70 = .ok (.putfield 31, 3) := by decide +kernel
theorem dX10_open_73 : decode cX10_open 73 = .ok (.aload_n 0, 1) := by decide +kernel
theorem dX10_open_74 : decode cX10_open 74 = .ok (.invokevirtual 54, 3) := by decide +kernel
theorem dX10_open_77 : decode cX10_open 77 = .ok (.return_, 1) := by decide +kernel
theorem dX11_ails_0 : decode cX11_ails 0 = .ok (.aload_n 0, 1) := by decide +kernel
theorem dX11_ails_1 : decode cX11_ails 1 = .ok (.getfield 43, 3) := by decide +kernel
theorem dX11_ails_4 : decode cX11_ails 4 = .ok (.getfield 111, 3) := by decide +kernel
theorem dX11_ails_7 : decode cX11_ails 7 = .ok (.iload_n 1, 1) := by decide +kernel
theorem dX11_ails_8 : decode cX11_ails 8 = .ok (.invokevirtual 139, 3) := by decide +kernel
theorem dX11_ails_11 : decode cX11_ails 11 = .ok (.ifCond .ne 5, 3) := by decide +kernel
theorem dX11_ails_14 : decode cX11_ails 14 = .ok (.iconst (-1), 1) := by decide +kernel
theorem dX11_ails_15 : decode cX11_ails 15 = .ok (.ireturn, 1) := by decide +kernel
theorem dX11_ails_16 : decode cX11_ails 16 = .ok (.aload_n 0, 1) := by decide +kernel
theorem dX11_ails_17 : decode cX11_ails 17 = .ok (.getfield 43, 3) := by decide +kernel
theorem dX11_ails_20 : decode cX11_ails 20 = .ok (.getfield 111, 3) := by decide +kernel
theorem dX11_ails_23 : decode cX11_ails 23 = .ok (.getfield 124, 3) := by decide +kernel
theorem dX11_ails_26 : decode cX11_ails 26 = .ok (.iconst 3, 1) := by decide +kernel
theorem dX11_ails_27 : decode cX11_ails 27 = .ok (.iaload, 1) := by decide +kernel
theorem dX11_ails_28 : decode cX11_ails 28 = .ok (.iconst 1, 1) := by decide +kernel
theorem dX11_ails_29 : decode cX11_ails 29 = .ok (.isub, 1) := by decide +kernel
theorem dX11_ails_30 : decode cX11_ails 30 = .ok (.istore_n 2, 1) := by decide +kernel
theorem dX11_ails_31 : decode cX11_ails 31 = .ok (.aload_n 0, 1) := by decide +kernel
theorem dX11_ails_32 : decode cX11_ails 32 = .ok (.getfield 75, 3) := by decide +kernel
theorem dX11_ails_35 : decode cX11_ails 35 = .ok (.aload_n 0, 1) := by decide +kernel
theorem dX11_ails_36 : decode cX11_ails 36 = .ok (.getfield 61, 3) := by decide +kernel
theorem dX11_ails_39 : decode cX11_ails 39 = .ok (.aload_n 0, 1) := by decide +kernel
theorem dX11_ails_40 : decode cX11_ails 40 = .ok (.getfield 43, 3) := by decide +kernel
theorem dX11_ails_43 : decode cX11_ails 43 = .ok (.aload_n 0, 1) := by decide +kernel
theorem dX11_ails_44 : decode cX11_ails 44 = .ok (.invokevirtual 159, 3) := by decide +kernel
theorem dX11_ails_47 : decode cX11_ails 47 = .ok (.bipush 38, 2) := by decide +kernel
theorem dX11_ails_49 : decode cX11_ails 49 = .ok (.iload_n 1, 1) := by decide +kernel
theorem dX11_ails_50 : decode cX11_ails 50 = .ok (.iadd, 1) := by decide +kernel
theorem dX11_ails_51 : decode cX11_ails 51 = .ok (.iconst 0, 1) := by decide +kernel
theorem dX11_ails_52 : decode cX11_ails 52 = .ok (.iload_n 2, 1) := by decide +kernel
theorem dX11_ails_53 : decode cX11_ails 53 = .ok (.invokevirtual 239, 3) := by decide +kernel
theorem dX11_ails_56 : decode cX11_ails 56 = .ok (.ireturn, 1) := by decide +kernel
theorem dX11_back_0 : decode cX11_back 0 = .ok (.iload_n 1, 1) := by decide +kernel
theorem dX11_back_1 : decode cX11_back 1 = .ok (.iconst 0, 1) := by decide +kernel
theorem dX11_back_2 : decode cX11_back 2 = .ok (.iconst 3, 1) := by decide +kernel
theorem dX11_back_3 : decode cX11_back 3 = .ok (.invokestatic 90, 3) := by decide +kernel
theorem dX11_back_6 : decode cX11_back 6 = .ok (.ifCond .eq 15, 3) := by decide +kernel
theorem dX11_back_9 : decode cX11_back 9 = .ok (.aload_n 0, 1) := by decide +kernel
theorem dX11_back_10 : decode cX11_back 10 = .ok (.getfield 47, 3) := by decide +kernel
theorem dX11_back_13 : decode cX11_back 13 = .ok (.iload_n 1, 1) := by decide +kernel
theorem dX11_back_14 : decode cX11_back 14 = .ok (.aaload, 1) := by decide +kernel
theorem dX11_back_15 : decode cX11_back 15 = .ok (.getfield 273, 3) := by decide +kernel
theorem dX11_back_18 : decode cX11_back 18 = .ok (.ifCond .ne 5, 3) := by decide +kernel
theorem dX11_back_21 : decode cX11_back 21 = .ok (.iconst (-1), 1) := by decide +kernel
theorem dX11_back_22 : decode cX11_back 22 = .ok (.ireturn, 1) := by decide +kernel
theorem dX11_back_23 : decode cX11_back 23 = .ok (.aload_n 0, 1) := by decide +kernel
theorem dX11_back_24 : decode cX11_back 24 = .ok (.getfield 43, 3) := by decide +kernel
theorem dX11_back_27 : decode cX11_back 27 = .ok (.aload_n 0, 1) := by decide +kernel
theorem dX11_back_28 : decode cX11_back 28 = .ok (.getfield 47, 3) := by decide +kernel
theorem dX11_back_31 : decode cX11_back 31 = .ok (.iload_n 1, 1) := by decide +kernel
theorem dX11_back_32 : decode cX11_back 32 = .ok (.aaload, 1) := by decide +kernel
theorem dX11_back_33 : decode cX11_back 33 = .ok (.invokevirtual 270, 3) := by decide +kernel
theorem dX11_back_36 : decode cX11_back 36 = .ok (.aload_n 0, 1) := by decide +kernel
theorem dX11_back_37 : decode cX11_back 37 = .ok (.getfield 54, 3) := by decide +kernel
theorem dX11_back_40 : decode cX11_back 40 = .ok (.iconst 0, 1) := by decide +kernel
theorem dX11_back_41 : decode cX11_back 41 = .ok (.putfield 123, 3) := by decide +kernel
theorem dX11_back_44 : decode cX11_back 44 = .ok (.aload_n 0, 1) := by decide +kernel
theorem dX11_back_45 : decode cX11_back 45 = .ok (.getfield 43, 3) := by decide +kernel
theorem dX11_back_48 : decode cX11_back 48 = .ok (.getfield 111, 3) := by decide +kernel
theorem dX11_back_51 : decode cX11_back 51 = .ok (.getfield 124, 3) := by decide +kernel
theorem dX11_back_54 : decode cX11_back 54 = .ok (.iconst 5, 1) := by decide +kernel
theorem dX11_back_55 : decode cX11_back 55 = .ok (.iaload, 1) := by decide +kernel
theorem dX11_back_56 : decode cX11_back 56 = .ok (.ireturn, 1) := by decide +kernel
theorem dX11_down_0 : decode cX11_down 0 = .ok (.aload_n 0, 1) := by decide +kernel
theorem dX11_down_1 : decode cX11_down 1 = .ok (.getfield 43, 3) := by decide +kernel
theorem dX11_down_4 : decode cX11_down 4 = .ok (.getfield 111, 3) := by decide +kernel
theorem dX11_down_7 : decode cX11_down 7 = .ok (.astore_n 3, 1) := by decide +kernel
theorem dX11_down_8 : decode cX11_down 8 = .ok (.aload_n 3, 1) := by decide +kernel
theorem dX11_down_9 : decode cX11_down 9 = .ok (.iload_n 1, 1) := by decide +kernel
theorem dX11_down_10 : decode cX11_down 10 = .ok (.invokevirtual 139, 3) := by decide +kernel
theorem dX11_down_13 : decode cX11_down 13 = .ok (.ifCond .eq 11, 3) := by decide +kernel
theorem dX11_down_16 : decode cX11_down 16 = .ok (.aload_n 3, 1) := by decide +kernel
theorem dX11_down_17 : decode cX11_down 17 = .ok (.iload_n 2, 1) := by decide +kernel
theorem dX11_down_18 : decode cX11_down 18 = .ok (.invokevirtual 136, 3) := by decide +kernel
theorem dX11_down_21 : decode cX11_down 21 = .ok (.ifCond .ne 5, 3) := by decide +kernel
theorem dX11_down_24 : decode cX11_down 24 = .ok (.iconst (-1), 1) := by decide +kernel
theorem dX11_down_25 : decode cX11_down 25 = .ok (.ireturn, 1) := by decide +kernel
theorem dX11_down_26 : decode cX11_down 26 = .ok (.aload_n 3, 1) := by decide +kernel
theorem dX11_down_27 : decode cX11_down 27 = .ok (.iload_n 1, 1) := by decide +kernel
theorem dX11_down_28 : decode cX11_down 28 = .ok (.iload_n 2, 1) := by decide +kernel
theorem dX11_down_29 : decode cX11_down 29 = .ok (.aload_n 3, 1) := by decide +kernel
theorem dX11_down_30 : decode cX11_down 30 = .ok (.aload_n 3, 1) := by decide +kernel
theorem dX11_down_31 : decode cX11_down 31 = .ok (.getfield 124, 3) := by decide +kernel
theorem dX11_down_34 : decode cX11_down 34 = .ok (.bipush 6, 2) := by decide +kernel
theorem dX11_down_36 : decode cX11_down 36 = .ok (.iaload, 1) := by decide +kernel
theorem dX11_down_37 : decode cX11_down 37 = .ok (.invokevirtual 142, 3) := by decide +kernel
theorem dX11_down_40 : decode cX11_down 40 = .ok (.invokevirtual 194, 3) := by decide +kernel
theorem dX11_down_43 : decode cX11_down 43 = .ok (.invokestatic 175, 3) := by decide +kernel
theorem dX11_down_46 : decode cX11_down 46 = .ok (.ireturn, 1) := by decide +kernel
theorem dX11_feed_0 : decode cX11_feed 0 = .ok (.aload_n 0, 1) := by decide +kernel
theorem dX11_feed_1 : decode cX11_feed 1 = .ok (.getfield 10, 3) := by decide +kernel
theorem dX11_feed_4 : decode cX11_feed 4 = .ok (.bipush 20, 2) := by decide +kernel
theorem dX11_feed_6 : decode cX11_feed 6 = .ok (.invokevirtual 79, 3) := by decide +kernel
theorem dX11_feed_9 : decode cX11_feed 9 = .ok (.ifCond .ne 5, 3) := by decide +kernel
theorem dX11_feed_12 : decode cX11_feed 12 = .ok (.iconst (-1), 1) := by decide +kernel
theorem dX11_feed_13 : decode cX11_feed 13 = .ok (.ireturn, 1) := by decide +kernel
theorem dX11_feed_14 : decode cX11_feed 14 = .ok (.aload_n 0, 1) := by decide +kernel
theorem dX11_feed_15 : decode cX11_feed 15 = .ok (.getfield 10, 3) := by decide +kernel
theorem dX11_feed_18 : decode cX11_feed 18 = .ok (.iload_n 1, 1) := by decide +kernel
theorem dX11_feed_19 : decode cX11_feed 19 = .ok (.invokevirtual 83, 3) := by decide +kernel
theorem dX11_feed_22 : decode cX11_feed 22 = .ok (.aload_n 0, 1) := by decide +kernel
theorem dX11_feed_23 : decode cX11_feed 23 = .ok (.getfield 10, 3) := by decide +kernel
theorem dX11_feed_26 : decode cX11_feed 26 = .ok (.iload_n 2, 1) := by decide +kernel
theorem dX11_feed_27 : decode cX11_feed 27 = .ok (.invokevirtual 83, 3) := by decide +kernel
theorem dX11_feed_30 : decode cX11_feed 30 = .ok (.aload_n 0, 1) := by decide +kernel
theorem dX11_feed_31 : decode cX11_feed 31 = .ok (.getfield 10, 3) := by decide +kernel
theorem dX11_feed_34 : decode cX11_feed 34 = .ok (.iload_n 3, 1) := by decide +kernel
theorem dX11_feed_35 : decode cX11_feed 35 = .ok (.invokevirtual 83, 3) := by decide +kernel
theorem dX11_feed_38 : decode cX11_feed 38 = .ok (.aload_n 0, 1) := by decide +kernel
theorem dX11_feed_39 : decode cX11_feed 39 = .ok (.getfield 10, 3) := by decide +kernel
theorem dX11_feed_42 : decode cX11_feed 42 = .ok (.iload 4, 2) := by decide +kernel
theorem dX11_feed_44 : decode cX11_feed 44 = .ok (.invokevirtual 83, 3) := by decide +kernel
theorem dX11_feed_47 : decode cX11_feed 47 = .ok (.aload_n 0, 1) := by decide +kernel
theorem dX11_feed_48 : decode cX11_feed 48 = .ok (.getfield 10, 3) := by decide +kernel
theorem dX11_feed_51 : decode cX11_feed 51 = .ok (.iload 5, 2) := by decide +kernel
theorem dX11_feed_53 : decode cX11_feed 53 = .ok (.invokevirtual 83, 3) := by decide +kernel
theorem dX11_feed_56 : decode cX11_feed 56 = .ok (.aload_n 0, 1) := by decide +kernel
theorem dX11_feed_57 : decode cX11_feed 57 = .ok (.getfield 10, 3) := by decide +kernel
theorem dX11_feed_60 : decode cX11_feed 60 = .ok (.getfield 87, 3) := by decide +kernel
theorem dX11_feed_63 : decode cX11_feed 63 = .ok (.ireturn, 1) := by decide +kernel
theorem dX11_hold_0 : decode cX11_hold 0 = .ok (.aload_n 0, 1) := by decide +kernel
theorem dX11_hold_1 : decode cX11_hold 1 = .ok (.getfield 43, 3) := by decide +kernel
theorem dX11_hold_4 : decode cX11_hold 4 = .ok (.getfield 111, 3) := by decide +kernel
theorem dX11_hold_7 : decode cX11_hold 7 = .ok (.astore_n 2, 1) := by decide +kernel
theorem dX11_hold_8 : decode cX11_hold 8 = .ok (.aload_n 2, 1) := by decide +kernel
theorem dX11_hold_9 : decode cX11_hold 9 = .ok (.iload_n 1, 1) := by decide +kernel
theorem dX11_hold_10 : decode cX11_hold 10 = .ok (.invokevirtual 139, 3) := by decide +kernel
theorem dX11_hold_13 : decode cX11_hold 13 = .ok (.ifCond .ne 5, 3) := by decide +kernel
theorem dX11_hold_16 : decode cX11_hold 16 = .ok (.iconst (-1), 1) := by decide +kernel
theorem dX11_hold_17 : decode cX11_hold 17 = .ok (.ireturn, 1) := by decide +kernel
theorem dX11_hold_18 : decode cX11_hold 18 = .ok (.aload_n 2, 1) := by decide +kernel
theorem dX11_hold_19 : decode cX11_hold 19 = .ok (.getfield 124, 3) := by decide +kernel
theorem dX11_hold_22 : decode cX11_hold 22 = .ok (.bipush 6, 2) := by decide +kernel
theorem dX11_hold_24 : decode cX11_hold 24 = .ok (.iaload, 1) := by decide +kernel
theorem dX11_hold_25 : decode cX11_hold 25 = .ok (.istore_n 3, 1) := by decide +kernel
theorem dX11_hold_26 : decode cX11_hold 26 = .ok (.iconst 0, 1) := by decide +kernel
theorem dX11_hold_27 : decode cX11_hold 27 = .ok (.istore 4, 2) := by decide +kernel
theorem dX11_hold_29 : decode cX11_hold 29 = .ok (.iload 4, 2) := by decide +kernel
theorem dX11_hold_31 : decode cX11_hold 31 = .ok (.bipush 60, 2) := by decide +kernel
theorem dX11_hold_33 : decode cX11_hold 33 = .ok (.if_icmp .gt 28, 3) := by decide +kernel
theorem dX11_hold_36 : decode cX11_hold 36 = .ok (.aload_n 2, 1) := by decide +kernel
theorem dX11_hold_37 : decode cX11_hold 37 = .ok (.iload_n 1, 1) := by decide +kernel
theorem dX11_hold_38 : decode cX11_hold 38 = .ok (.aload_n 2, 1) := by decide +kernel
theorem dX11_hold_39 : decode cX11_hold 39 = .ok (.iload_n 3, 1) := by decide +kernel
theorem dX11_hold_40 : decode cX11_hold 40 = .ok (.iload 4, 2) := by decide +kernel
theorem dX11_hold_42 : decode cX11_hold 42 = .ok (.iadd, 1) := by decide +kernel
theorem dX11_hold_43 : decode cX11_hold 43 = .ok (.invokevirtual 142, 3) := by decide +kernel
theorem dX11_hold_46 : decode cX11_hold 46 = .ok (.invokevirtual 204, 3) := by decide +kernel
theorem dX11_hold_49 : decode cX11_hold 49 = .ok (.ifCond .ne 6, 3) := by decide +kernel
theorem dX11_hold_52 : decode cX11_hold 52 = .ok (.iload 4, 2) := by decide +kernel
theorem dX11_hold_54 : decode cX11_hold 54 = .ok (.ireturn, 1) := by decide +kernel
theorem dX11_hold_55 : decode cX11_hold 55 = .ok (.iinc 4 1, 3) := by decide +kernel
theorem dX11_hold_58 : decode cX11_hold 58 = .ok (.goto (-29), 3) := by decide +kernel
theorem dX11_hold_61 : decode cX11_hold 61 = .ok (.bipush (-2), 2) := by decide +kernel
theorem dX11_hold_63 : decode cX11_hold 63 = .ok (.ireturn, 1) := by decide +kernel
theorem dX11_look_0 : decode cX11_look 0 = .ok (.aload_n 0, 1) := by decide +kernel
theorem dX11_look_1 : decode cX11_look 1 = .ok (.getfield 43, 3) := by decide +kernel
theorem dX11_look_4 : decode cX11_look 4 = .ok (.getfield 111, 3) := by decide +kernel
theorem dX11_look_7 : decode cX11_look 7 = .ok (.invokevirtual 152, 3) := by decide +kernel
theorem dX11_look_10 : decode cX11_look 10 = .ok (.ifCond .eq 22, 3) := by decide +kernel
theorem dX11_look_13 : decode cX11_look 13 = .ok (.iload_n 1, 1) := by decide +kernel
theorem dX11_look_14 : decode cX11_look 14 = .ok (.iconst 0, 1) := by decide +kernel
theorem dX11_look_15 : decode cX11_look 15 = .ok (.bipush 40, 2) := by decide +kernel
theorem dX11_look_17 : decode cX11_look 17 = .ok (.invokestatic 90, 3) := by decide +kernel
theorem dX11_look_20 : decode cX11_look 20 = .ok (.ifCond .eq 12, 3) := by decide +kernel
theorem dX11_look_23 : decode cX11_look 23 = .ok (.iload_n 2, 1) := by decide +kernel
theorem dX11_look_24 : decode cX11_look 24 = .ok (.iconst 0, 1) := by decide +kernel
theorem dX11_look_25 : decode cX11_look 25 = .ok (.iconst 1, 1) := by decide +kernel
theorem dX11_look_26 : decode cX11_look 26 = .ok (.invokestatic 90, 3) := by decide +kernel
theorem dX11_look_29 : decode cX11_look 29 = .ok (.ifCond .ne 5, 3) := by decide +kernel
theorem dX11_look_32 : decode cX11_look 32 = .ok (.iconst (-1), 1) := by decide +kernel
theorem dX11_look_33 : decode cX11_look 33 = .ok (.ireturn, 1) := by decide +kernel
theorem dX11_look_34 : decode cX11_look 34 = .ok (.aload_n 0, 1) := by decide +kernel
theorem dX11_look_35 : decode cX11_look 35 = .ok (.getfield 75, 3) := by decide +kernel
theorem dX11_look_38 : decode cX11_look 38 = .ok (.aload_n 0, 1) := by decide +kernel
theorem dX11_look_39 : decode cX11_look 39 = .ok (.getfield 61, 3) := by decide +kernel
theorem dX11_look_42 : decode cX11_look 42 = .ok (.aload_n 0, 1) := by decide +kernel
theorem dX11_look_43 : decode cX11_look 43 = .ok (.getfield 43, 3) := by decide +kernel
theorem dX11_look_46 : decode cX11_look 46 = .ok (.aload_n 0, 1) := by decide +kernel
theorem dX11_look_47 : decode cX11_look 47 = .ok (.getfield 32, 3) := by decide +kernel
theorem dX11_look_50 : decode cX11_look 50 = .ok (.aload_n 0, 1) := by decide +kernel
theorem dX11_look_51 : decode cX11_look 51 = .ok (.getfield 36, 3) := by decide +kernel
theorem dX11_look_54 : decode cX11_look 54 = .ok (.iload_n 1, 1) := by decide +kernel
theorem dX11_look_55 : decode cX11_look 55 = .ok (.invokevirtual 243, 3) := by decide +kernel
theorem dX11_look_58 : decode cX11_look 58 = .ok (.aload_n 0, 1) := by decide +kernel
theorem dX11_look_59 : decode cX11_look 59 = .ok (.getfield 43, 3) := by decide +kernel
theorem dX11_look_62 : decode cX11_look 62 = .ok (.getfield 111, 3) := by decide +kernel
theorem dX11_look_65 : decode cX11_look 65 = .ok (.getfield 124, 3) := by decide +kernel
theorem dX11_look_68 : decode cX11_look 68 = .ok (.iconst 4, 1) := by decide +kernel
theorem dX11_look_69 : decode cX11_look 69 = .ok (.iaload, 1) := by decide +kernel
theorem dX11_look_70 : decode cX11_look 70 = .ok (.istore_n 3, 1) := by decide +kernel
theorem dX11_look_71 : decode cX11_look 71 = .ok (.aload_n 0, 1) := by decide +kernel
theorem dX11_look_72 : decode cX11_look 72 = .ok (.getfield 75, 3) := by decide +kernel
theorem dX11_look_75 : decode cX11_look 75 = .ok (.getfield 247, 3) := by decide +kernel
theorem dX11_look_78 : decode cX11_look 78 = .ok (.ifCond .eq 7, 3) := by decide +kernel
theorem dX11_look_81 : decode cX11_look 81 = .ok (.iload_n 3, 1) := by decide +kernel
theorem dX11_look_82 : decode cX11_look 82 = .ok (.ifCond .ne 6, 3) := by decide +kernel
theorem dX11_look_85 : decode cX11_look 85 = .ok (.bipush (-2), 2) := by decide +kernel
theorem dX11_look_87 : decode cX11_look 87 = .ok (.ireturn, 1) := by decide +kernel
theorem dX11_look_88 : decode cX11_look 88 = .ok (.aload_n 0, 1) := by decide +kernel
theorem dX11_look_89 : decode cX11_look 89 = .ok (.getfield 75, 3) := by decide +kernel
theorem dX11_look_92 : decode cX11_look 92 = .ok (.iload_n 3, 1) := by decide +kernel
theorem dX11_look_93 : decode cX11_look 93 = .ok (.invokevirtual 253, 3) := by decide +kernel
theorem dX11_look_96 : decode cX11_look 96 = .ok (.istore 4, 2) := by decide +kernel
theorem dX11_look_98 : decode cX11_look 98 = .ok (.iload_n 2, 1) := by decide +kernel
theorem dX11_look_99 : decode cX11_look 99 = .ok (.ifCond .ne 8, 3) := by decide +kernel
theorem dX11_look_102 : decode cX11_look 102 = .ok (.iload 4, 2) := by decide +kernel
theorem dX11_look_104 : decode cX11_look 104 = .ok (.goto 12, 3) := by decide +kernel
theorem dX11_look_107 : decode cX11_look 107 = .ok (.aload_n 0, 1) := by decide +kernel
theorem dX11_look_108 : decode cX11_look 108 = .ok (.getfield 75, 3) := by decide +kernel
theorem dX11_look_111 : decode cX11_look 111 = .ok (.iload 4, 2) := by decide +kernel
theorem dX11_look_113 : decode cX11_look 113 = .ok (.invokevirtual 256, 3) := by decide +kernel
theorem dX11_look_116 : decode cX11_look 116 = .ok (.ireturn, 1) := by decide +kernel
theorem dX11_note_0 : decode cX11_note 0 = .ok (.iload_n 1, 1) := by decide +kernel
theorem dX11_note_1 : decode cX11_note 1 = .ok (.iconst (-1), 1) := by decide +kernel
theorem dX11_note_2 : decode cX11_note 2 = .ok (.if_icmp .ne 16, 3) := by decide +kernel
theorem dX11_note_5 : decode cX11_note 5 = .ok (.aload_n 0, 1) := by decide +kernel
theorem dX11_note_6 : decode cX11_note 6 = .ok (.getfield 43, 3) := by decide +kernel
theorem dX11_note_9 : decode cX11_note 9 = .ok (.getfield 114, 3) := by decide +kernel
theorem dX11_note_12 : decode cX11_note 12 = .ok (.iconst 0, 1) := by decide +kernel
theorem dX11_note_13 : decode cX11_note 13 = .ok (.putfield 118, 3) := by decide +kernel
theorem dX11_note_16 : decode cX11_note 16 = .ok (.iconst 0, 1) := by decide +kernel
theorem dX11_note_17 : decode cX11_note 17 = .ok (.ireturn, 1) := by decide +kernel
theorem dX11_note_18 : decode cX11_note 18 = .ok (.iload_n 3, 1) := by decide +kernel
theorem dX11_note_19 : decode cX11_note 19 = .ok (.iconst (-1), 1) := by decide +kernel
theorem dX11_note_20 : decode cX11_note 20 = .ok (.aload_n 0, 1) := by decide +kernel
theorem dX11_note_21 : decode cX11_note 21 = .ok (.getfield 43, 3) := by decide +kernel
theorem dX11_note_24 : decode cX11_note 24 = .ok (.getfield 111, 3) := by decide +kernel
theorem dX11_note_27 : decode cX11_note 27 = .ok (.getfield 124, 3) := by decide +kernel
theorem dX11_note_30 : decode cX11_note 30 = .ok (.iconst 0, 1) := by decide +kernel
theorem dX11_note_31 : decode cX11_note 31 = .ok (.iaload, 1) := by decide +kernel
theorem dX11_note_32 : decode cX11_note 32 = .ok (.iconst 1, 1) := by decide +kernel
theorem dX11_note_33 : decode cX11_note 33 = .ok (.isub, 1) := by decide +kernel
theorem dX11_note_34 : decode cX11_note 34 = .ok (.invokestatic 90, 3) := by decide +kernel
theorem dX11_note_37 : decode cX11_note 37 = .ok (.ifCond .ne 9, 3) := by decide +kernel
theorem dX11_note_40 : decode cX11_note 40 = .ok (.iload_n 3, 1) := by decide +kernel
theorem dX11_note_41 : decode cX11_note 41 = .ok (.bipush 99, 2) := by decide +kernel
theorem dX11_note_43 : decode cX11_note 43 = .ok (.if_icmp .ne 7, 3) := by decide +kernel
theorem dX11_note_46 : decode cX11_note 46 = .ok (.iconst 1, 1) := by decide +kernel
theorem dX11_note_47 : decode cX11_note 47 = .ok (.goto 4, 3) := by decide +kernel
theorem dX11_note_50 : decode cX11_note 50 = .ok (.iconst 0, 1) := by decide +kernel
theorem dX11_note_51 : decode cX11_note 51 = .ok (.istore 4, 2) := by decide +kernel
theorem dX11_note_53 : decode cX11_note 53 = .ok (.iload_n 1, 1) := by decide +kernel
theorem dX11_note_54 : decode cX11_note 54 = .ok (.iconst 0, 1) := by decide +kernel
theorem dX11_note_55 : decode cX11_note 55 = .ok (.bipush 40, 2) := by decide +kernel
theorem dX11_note_57 : decode cX11_note 57 = .ok (.invokestatic 90, 3) := by decide +kernel
theorem dX11_note_60 : decode cX11_note 60 = .ok (.ifCond .eq 35, 3) := by decide +kernel
theorem dX11_note_63 : decode cX11_note 63 = .ok (.aload_n 0, 1) := by decide +kernel
theorem dX11_note_64 : decode cX11_note 64 = .ok (.getfield 43, 3) := by decide +kernel
theorem dX11_note_67 : decode cX11_note 67 = .ok (.getfield 111, 3) := by decide +kernel
theorem dX11_note_70 : decode cX11_note 70 = .ok (.iload_n 2, 1) := by decide +kernel
theorem dX11_note_71 : decode cX11_note 71 = .ok (.invokevirtual 139, 3) := by decide +kernel
theorem dX11_note_74 : decode cX11_note 74 = .ok (.ifCond .eq 21, 3) := by decide +kernel
theorem dX11_note_77 : decode cX11_note 77 = .ok (.iload 4, 2) := by decide +kernel
theorem dX11_note_79 : decode cX11_note 79 = .ok (.ifCond .eq 16, 3) := by decide +kernel
theorem dX11_note_82 : decode cX11_note 82 = .ok (.aload_n 0, 1) := by decide +kernel
theorem dX11_note_83 : decode cX11_note 83 = .ok (.getfield 43, 3) := by decide +kernel
theorem dX11_note_86 : decode cX11_note 86 = .ok (.getfield 114, 3) := by decide +kernel
theorem dX11_note_89 : decode cX11_note 89 = .ok (.invokevirtual 232, 3) := by decide +kernel
theorem dX11_note_92 : decode cX11_note 92 = .ok (.ifCond .eq 6, 3) := by decide +kernel
theorem dX11_note_95 : decode cX11_note 95 = .ok (.bipush (-2), 2) := by decide +kernel
theorem dX11_note_97 : decode cX11_note 97 = .ok (.ireturn, 1) := by decide +kernel
theorem dX11_note_98 : decode cX11_note 98 = .ok (.aload_n 0, 1) := by decide +kernel
theorem dX11_note_99 : decode cX11_note 99 = .ok (.getfield 43, 3) := by decide +kernel
theorem dX11_note_102 : decode cX11_note 102 = .ok (.getfield 114, 3) := by decide +kernel
theorem dX11_note_105 : decode cX11_note 105 = .ok (.iload_n 1, 1) := by decide +kernel
theorem dX11_note_106 : decode cX11_note 106 = .ok (.iload_n 2, 1) := by decide +kernel
theorem dX11_note_107 : decode cX11_note 107 = .ok (.iload_n 3, 1) := by decide +kernel
theorem dX11_note_108 : decode cX11_note 108 = .ok (.invokevirtual 235, 3) := by decide +kernel
theorem dX11_note_111 : decode cX11_note 111 = .ok (.aload_n 0, 1) := by decide +kernel
theorem dX11_note_112 : decode cX11_note 112 = .ok (.getfield 43, 3) := by decide +kernel
theorem dX11_note_115 : decode cX11_note 115 = .ok (.getfield 114, 3) := by decide +kernel
theorem dX11_note_118 : decode cX11_note 118 = .ok (.getfield 118, 3) := by decide +kernel
theorem dX11_note_121 : decode cX11_note 121 = .ok (.ireturn, 1) := by decide +kernel
theorem dX11_pull_0 : decode cX11_pull 0 = .ok (.aload_n 0, 1) := by decide +kernel
theorem dX11_pull_1 : decode cX11_pull 1 = .ok (.getfield 43, 3) := by decide +kernel
theorem dX11_pull_4 : decode cX11_pull 4 = .ok (.getfield 111, 3) := by decide +kernel
theorem dX11_pull_7 : decode cX11_pull 7 = .ok (.astore_n 3, 1) := by decide +kernel
theorem dX11_pull_8 : decode cX11_pull 8 = .ok (.aload_n 3, 1) := by decide +kernel
theorem dX11_pull_9 : decode cX11_pull 9 = .ok (.iload_n 1, 1) := by decide +kernel
theorem dX11_pull_10 : decode cX11_pull 10 = .ok (.invokevirtual 136, 3) := by decide +kernel
theorem dX11_pull_13 : decode cX11_pull 13 = .ok (.ifCond .eq 24, 3) := by decide +kernel
theorem dX11_pull_16 : decode cX11_pull 16 = .ok (.aload_n 3, 1) := by decide +kernel
theorem dX11_pull_17 : decode cX11_pull 17 = .ok (.iload_n 2, 1) := by decide +kernel
theorem dX11_pull_18 : decode cX11_pull 18 = .ok (.invokevirtual 139, 3) := by decide +kernel
theorem dX11_pull_21 : decode cX11_pull 21 = .ok (.ifCond .eq 16, 3) := by decide +kernel
theorem dX11_pull_24 : decode cX11_pull 24 = .ok (.aload_n 3, 1) := by decide +kernel
theorem dX11_pull_25 : decode cX11_pull 25 = .ok (.getfield 124, 3) := by decide +kernel
theorem dX11_pull_28 : decode cX11_pull 28 = .ok (.bipush 32, 2) := by decide +kernel
theorem dX11_pull_30 : decode cX11_pull 30 = .ok (.iload_n 1, 1) := by decide +kernel
theorem dX11_pull_31 : decode cX11_pull 31 = .ok (.iadd, 1) := by decide +kernel
theorem dX11_pull_32 : decode cX11_pull 32 = .ok (.iaload, 1) := by decide +kernel
theorem dX11_pull_33 : decode cX11_pull 33 = .ok (.iconst 1, 1) := by decide +kernel
theorem dX11_pull_34 : decode cX11_pull 34 = .ok (.if_icmp .ge 5, 3) := by decide +kernel
theorem dX11_pull_37 : decode cX11_pull 37 = .ok (.iconst (-1), 1) := by decide +kernel
theorem dX11_pull_38 : decode cX11_pull 38 = .ok (.ireturn, 1) := by decide +kernel
theorem dX11_pull_39 : decode cX11_pull 39 = .ok (.aload_n 0, 1) := by decide +kernel
theorem dX11_pull_40 : decode cX11_pull 40 = .ok (.getfield 54, 3) := by decide +kernel
theorem dX11_pull_43 : decode cX11_pull 43 = .ok (.aload_n 3, 1) := by decide +kernel
theorem dX11_pull_44 : decode cX11_pull 44 = .ok (.invokevirtual 156, 3) := by decide +kernel
theorem dX11_pull_47 : decode cX11_pull 47 = .ok (.bipush 99, 2) := by decide +kernel
theorem dX11_pull_49 : decode cX11_pull 49 = .ok (.aload_n 3, 1) := by decide +kernel
theorem dX11_pull_50 : decode cX11_pull 50 = .ok (.getfield 124, 3) := by decide +kernel
theorem dX11_pull_53 : decode cX11_pull 53 = .ok (.bipush 58, 2) := by decide +kernel
theorem dX11_pull_55 : decode cX11_pull 55 = .ok (.iload_n 2, 1) := by decide +kernel
theorem dX11_pull_56 : decode cX11_pull 56 = .ok (.iadd, 1) := by decide +kernel
theorem dX11_pull_57 : decode cX11_pull 57 = .ok (.iaload, 1) := by decide +kernel
theorem dX11_pull_58 : decode cX11_pull 58 = .ok (.aload_n 3, 1) := by decide +kernel
theorem dX11_pull_59 : decode cX11_pull 59 = .ok (.getfield 124, 3) := by decide +kernel
theorem dX11_pull_62 : decode cX11_pull 62 = .ok (.bipush 32, 2) := by decide +kernel
theorem dX11_pull_64 : decode cX11_pull 64 = .ok (.iload_n 1, 1) := by decide +kernel
theorem dX11_pull_65 : decode cX11_pull 65 = .ok (.iadd, 1) := by decide +kernel
theorem dX11_pull_66 : decode cX11_pull 66 = .ok (.iaload, 1) := by decide +kernel
theorem dX11_pull_67 : decode cX11_pull 67 = .ok (.iadd, 1) := by decide +kernel
theorem dX11_pull_68 : decode cX11_pull 68 = .ok (.invokestatic 178, 3) := by decide +kernel
theorem dX11_pull_71 : decode cX11_pull 71 = .ok (.istore 4, 2) := by decide +kernel
theorem dX11_pull_73 : decode cX11_pull 73 = .ok (.aload_n 3, 1) := by decide +kernel
theorem dX11_pull_74 : decode cX11_pull 74 = .ok (.getfield 124, 3) := by decide +kernel
theorem dX11_pull_77 : decode cX11_pull 77 = .ok (.bipush 32, 2) := by decide +kernel
theorem dX11_pull_79 : decode cX11_pull 79 = .ok (.iload_n 1, 1) := by decide +kernel
theorem dX11_pull_80 : decode cX11_pull 80 = .ok (.iadd, 1) := by decide +kernel
theorem dX11_pull_81 : decode cX11_pull 81 = .ok (.iconst 0, 1) := by decide +kernel
theorem dX11_pull_82 : decode cX11_pull 82 = .ok (.iastore, 1) := by decide +kernel
theorem dX11_pull_83 : decode cX11_pull 83 = .ok (.aload_n 3, 1) := by decide +kernel
theorem dX11_pull_84 : decode cX11_pull 84 = .ok (.getfield 124, 3) := by decide +kernel
theorem dX11_pull_87 : decode cX11_pull 87 = .ok (.bipush 58, 2) := by decide +kernel
theorem dX11_pull_89 : decode cX11_pull 89 = .ok (.iload_n 2, 1) := by decide +kernel
theorem dX11_pull_90 : decode cX11_pull 90 = .ok (.iadd, 1) := by decide +kernel
theorem dX11_pull_91 : decode cX11_pull 91 = .ok (.iload 4, 2) := by decide +kernel
theorem dX11_pull_93 : decode cX11_pull 93 = .ok (.iastore, 1) := by decide +kernel
theorem dX11_pull_94 : decode cX11_pull 94 = .ok (.iload 4, 2) := by decide +kernel
theorem dX11_pull_96 : decode cX11_pull 96 = .ok (.ireturn, 1) := by decide +kernel
theorem dX11_ring_0 : decode cX11_ring 0 = .ok (.aload_n 0, 1) := by decide +kernel
theorem dX11_ring_1 : decode cX11_ring 1 = .ok (.getfield 43, 3) := by decide +kernel
theorem dX11_ring_4 : decode cX11_ring 4 = .ok (.getfield 111, 3) := by decide +kernel
theorem dX11_ring_7 : decode cX11_ring 7 = .ok (.iload_n 1, 1) := by decide +kernel
theorem dX11_ring_8 : decode cX11_ring 8 = .ok (.invokevirtual 136, 3) := by decide +kernel
theorem dX11_ring_11 : decode cX11_ring 11 = .ok (.ifCond .ne 5, 3) := by decide +kernel
theorem dX11_ring_14 : decode cX11_ring 14 = .ok (.iconst (-1), 1) := by decide +kernel
theorem dX11_ring_15 : decode cX11_ring 15 = .ok (.ireturn, 1) := by decide +kernel
theorem dX11_ring_16 : decode cX11_ring 16 = .ok (.iload_n 2, 1) := by decide +kernel
theorem dX11_ring_17 : decode cX11_ring 17 = .ok (.tableswitch 75 0 2 #[27, 43, 59], 27) := by decide +kernel
theorem dX11_ring_44 : decode cX11_ring 44 = .ok (.aload_n 0, 1) := by decide +kernel
theorem dX11_ring_45 : decode cX11_ring 45 = .ok (.getfield 43, 3) := by decide +kernel
theorem dX11_ring_48 : decode cX11_ring 48 = .ok (.getfield 111, 3) := by decide +kernel
theorem dX11_ring_51 : decode cX11_ring 51 = .ok (.getfield 124, 3) := by decide +kernel
theorem dX11_ring_54 : decode cX11_ring 54 = .ok (.bipush 20, 2) := by decide +kernel
theorem dX11_ring_56 : decode cX11_ring 56 = .ok (.iload_n 1, 1) := by decide +kernel
theorem dX11_ring_57 : decode cX11_ring 57 = .ok (.iadd, 1) := by decide +kernel
theorem dX11_ring_58 : decode cX11_ring 58 = .ok (.iaload, 1) := by decide +kernel
theorem dX11_ring_59 : decode cX11_ring 59 = .ok (.ireturn, 1) := by decide +kernel
theorem dX11_ring_60 : decode cX11_ring 60 = .ok (.aload_n 0, 1) := by decide +kernel
theorem dX11_ring_61 : decode cX11_ring 61 = .ok (.getfield 43, 3) := by decide +kernel
theorem dX11_ring_64 : decode cX11_ring 64 = .ok (.getfield 111, 3) := by decide +kernel
theorem dX11_ring_67 : decode cX11_ring 67 = .ok (.getfield 124, 3) := by decide +kernel
theorem dX11_ring_70 : decode cX11_ring 70 = .ok (.bipush 26, 2) := by decide +kernel
theorem dX11_ring_72 : decode cX11_ring 72 = .ok (.iload_n 1, 1) := by decide +kernel
theorem dX11_ring_73 : decode cX11_ring 73 = .ok (.iadd, 1) := by decide +kernel
theorem dX11_ring_74 : decode cX11_ring 74 = .ok (.iaload, 1) := by decide +kernel
theorem dX11_ring_75 : decode cX11_ring 75 = .ok (.ireturn, 1) := by decide +kernel
theorem dX11_ring_76 : decode cX11_ring 76 = .ok (.aload_n 0, 1) := by decide +kernel
theorem dX11_ring_77 : decode cX11_ring 77 = .ok (.getfield 43, 3) := by decide +kernel
theorem dX11_ring_80 : decode cX11_ring 80 = .ok (.getfield 111, 3) := by decide +kernel
theorem dX11_ring_83 : decode cX11_ring 83 = .ok (.getfield 124, 3) := by decide +kernel
theorem dX11_ring_86 : decode cX11_ring 86 = .ok (.bipush 32, 2) := by decide +kernel
theorem dX11_ring_88 : decode cX11_ring 88 = .ok (.iload_n 1, 1) := by decide +kernel
theorem dX11_ring_89 : decode cX11_ring 89 = .ok (.iadd, 1) := by decide +kernel
theorem dX11_ring_90 : decode cX11_ring 90 = .ok (.iaload, 1) := by decide +kernel
theorem dX11_ring_91 : decode cX11_ring 91 = .ok (.ireturn, 1) := by decide +kernel
theorem dX11_ring_92 : decode cX11_ring 92 = .ok (.iconst (-1), 1) := by decide +kernel
theorem dX11_ring_93 : decode cX11_ring 93 = .ok (.ireturn, 1) := by decide +kernel
theorem dX11_rule_0 : decode cX11_rule 0 = .ok (.aload_n 0, 1) := by decide +kernel
theorem dX11_rule_1 : decode cX11_rule 1 = .ok (.getfield 36, 3) := by decide +kernel
theorem dX11_rule_4 : decode cX11_rule 4 = .ok (.bipush 6, 2) := by decide +kernel
theorem dX11_rule_6 : decode cX11_rule 6 = .ok (.if_icmp .lt 5, 3) := by decide +kernel
theorem dX11_rule_9 : decode cX11_rule 9 = .ok (.iconst (-1), 1) := by decide +kernel
theorem dX11_rule_10 : decode cX11_rule 10 = .ok (.ireturn, 1) := by decide +kernel
theorem dX11_rule_11 : decode cX11_rule 11 = .ok (.aload_n 0, 1) := by decide +kernel
theorem dX11_rule_12 : decode cX11_rule 12 = .ok (.getfield 26, 3) := by decide +kernel
theorem dX11_rule_15 : decode cX11_rule 15 = .ok (.aload_n 0, 1) := by decide +kernel
theorem dX11_rule_16 : decode cX11_rule 16 = .ok (.getfield 10, 3) := by decide +kernel
theorem dX11_rule_19 : decode cX11_rule 19 = .ok (.invokevirtual 128, 3) := by decide +kernel
theorem dX11_rule_22 : decode cX11_rule 22 = .ok (.istore_n 1, 1) := by decide +kernel
theorem dX11_rule_23 : decode cX11_rule 23 = .ok (.aload_n 0, 1) := by decide +kernel
theorem dX11_rule_24 : decode cX11_rule 24 = .ok (.getfield 10, 3) := by decide +kernel
theorem dX11_rule_27 : decode cX11_rule 27 = .ok (.iconst 0, 1) := by decide +kernel
theorem dX11_rule_28 : decode cX11_rule 28 = .ok (.putfield 87, 3) := by decide +kernel
theorem dX11_rule_31 : decode cX11_rule 31 = .ok (.iload_n 1, 1) := by decide +kernel
theorem dX11_rule_32 : decode cX11_rule 32 = .ok (.ifCond .eq 8, 3) := by decide +kernel
theorem dX11_rule_35 : decode cX11_rule 35 = .ok (.bipush (-2), 2) := by decide +kernel
theorem dX11_rule_37 : decode cX11_rule 37 = .ok (.iload_n 1, 1) := by decide +kernel
theorem dX11_rule_38 : decode cX11_rule 38 = .ok (.isub, 1) := by decide +kernel
theorem dX11_rule_39 : decode cX11_rule 39 = .ok (.ireturn, 1) := by decide +kernel
theorem dX11_rule_40 : decode cX11_rule 40 = .ok (.aload_n 0, 1) := by decide +kernel
theorem dX11_rule_41 : decode cX11_rule 41 = .ok (.getfield 32, 3) := by decide +kernel
theorem dX11_rule_44 : decode cX11_rule 44 = .ok (.aload_n 0, 1) := by decide +kernel
theorem dX11_rule_45 : decode cX11_rule 45 = .ok (.getfield 36, 3) := by decide +kernel
theorem dX11_rule_48 : decode cX11_rule 48 = .ok (.aload_n 0, 1) := by decide +kernel
theorem dX11_rule_49 : decode cX11_rule 49 = .ok (.getfield 26, 3) := by decide +kernel
theorem dX11_rule_52 : decode cX11_rule 52 = .ok (.invokevirtual 129, 3) := by decide +kernel
theorem dX11_rule_55 : decode cX11_rule 55 = .ok (.aastore, 1) := by decide +kernel
theorem dX11_rule_56 : decode cX11_rule 56 = .ok (.aload_n 0, 1) := by decide +kernel
theorem dX11_rule_57 : decode cX11_rule 57 = .ok (.dup, 1) := by decide +kernel
theorem dX11_rule_58 : decode cX11_rule 58 = .ok (.getfield 36, 3) := by decide +kernel
theorem dX11_rule_61 : decode cX11_rule 61 = .ok (.iconst 1, 1) := by decide +kernel
theorem dX11_rule_62 : decode cX11_rule 62 = .ok (.iadd, 1) := by decide +kernel
theorem dX11_rule_63 : decode cX11_rule 63 = .ok (.putfield 36, 3) := by decide +kernel
theorem dX11_rule_66 : decode cX11_rule 66 = .ok (.aload_n 0, 1) := by decide +kernel
theorem dX11_rule_67 : decode cX11_rule 67 = .ok (.getfield 36, 3) := by decide +kernel
theorem dX11_rule_70 : decode cX11_rule 70 = .ok (.iconst 1, 1) := by decide +kernel
theorem dX11_rule_71 : decode cX11_rule 71 = .ok (.isub, 1) := by decide +kernel
theorem dX11_rule_72 : decode cX11_rule 72 = .ok (.ireturn, 1) := by decide +kernel
theorem dX11_seed_0 : decode cX11_seed 0 = .ok (.iload_n 1, 1) := by decide +kernel
theorem dX11_seed_1 : decode cX11_seed 1 = .ok (.ifCond .ge 5, 3) := by decide +kernel
theorem dX11_seed_4 : decode cX11_seed 4 = .ok (.iconst (-1), 1) := by decide +kernel
theorem dX11_seed_5 : decode cX11_seed 5 = .ok (.ireturn, 1) := by decide +kernel
theorem dX11_seed_6 : decode cX11_seed 6 = .ok (.aload_n 0, 1) := by decide +kernel
theorem dX11_seed_7 : decode cX11_seed 7 = .ok (.getfield 43, 3) := by decide +kernel
theorem dX11_seed_10 : decode cX11_seed 10 = .ok (.getfield 149, 3) := by decide +kernel
theorem dX11_seed_13 : decode cX11_seed 13 = .ok (.istore_n 2, 1) := by decide +kernel
theorem dX11_seed_14 : decode cX11_seed 14 = .ok (.aload_n 0, 1) := by decide +kernel
theorem dX11_seed_15 : decode cX11_seed 15 = .ok (.getfield 43, 3) := by decide +kernel
theorem dX11_seed_18 : decode cX11_seed 18 = .ok (.iload_n 1, 1) := by decide +kernel
theorem dX11_seed_19 : decode cX11_seed 19 = .ok (.putfield 149, 3) := by decide +kernel
theorem dX11_seed_22 : decode cX11_seed 22 = .ok (.iload_n 2, 1) := by decide +kernel
theorem dX11_seed_23 : decode cX11_seed 23 = .ok (.ireturn, 1) := by decide +kernel
theorem dX11_undo_0 : decode cX11_undo 0 = .ok (.aload_n 0, 1) := by decide +kernel
theorem dX11_undo_1 : decode cX11_undo 1 = .ok (.getfield 54, 3) := by decide +kernel
theorem dX11_undo_4 : decode cX11_undo 4 = .ok (.getfield 123, 3) := by decide +kernel
theorem dX11_undo_7 : decode cX11_undo 7 = .ok (.iconst 1, 1) := by decide +kernel
theorem dX11_undo_8 : decode cX11_undo 8 = .ok (.if_icmp .ge 5, 3) := by decide +kernel
theorem dX11_undo_11 : decode cX11_undo 11 = .ok (.iconst (-1), 1) := by decide +kernel
theorem dX11_undo_12 : decode cX11_undo 12 = .ok (.ireturn, 1) := by decide +kernel
theorem dX11_undo_13 : decode cX11_undo 13 = .ok (.aload_n 0, 1) := by decide +kernel
theorem dX11_undo_14 : decode cX11_undo 14 = .ok (.getfield 54, 3) := by decide +kernel
theorem dX11_undo_17 : decode cX11_undo 17 = .ok (.aload_n 0, 1) := by decide +kernel
theorem dX11_undo_18 : decode cX11_undo 18 = .ok (.getfield 43, 3) := by decide +kernel
theorem dX11_undo_21 : decode cX11_undo 21 = .ok (.getfield 111, 3) := by decide +kernel
theorem dX11_undo_24 : decode cX11_undo 24 = .ok (.invokevirtual 184, 3) := by decide +kernel
theorem dX11_undo_27 : decode cX11_undo 27 = .ok (.aload_n 0, 1) := by decide +kernel
theorem dX11_undo_28 : decode cX11_undo 28 = .ok (.getfield 54, 3) := by decide +kernel
theorem dX11_undo_31 : decode cX11_undo 31 = .ok (.getfield 123, 3) := by decide +kernel
theorem dX11_undo_34 : decode cX11_undo 34 = .ok (.ireturn, 1) := by decide +kernel
theorem dX11_wind_0 : decode cX11_wind 0 = .ok (.iload_n 1, 1) := by decide +kernel
theorem dX11_wind_1 : decode cX11_wind 1 = .ok (.iconst 0, 1) := by decide +kernel
theorem dX11_wind_2 : decode cX11_wind 2 = .ok (.aload_n 0, 1) := by decide +kernel
theorem dX11_wind_3 : decode cX11_wind 3 = .ok (.getfield 43, 3) := by decide +kernel
theorem dX11_wind_6 : decode cX11_wind 6 = .ok (.getfield 111, 3) := by decide +kernel
theorem dX11_wind_9 : decode cX11_wind 9 = .ok (.getfield 124, 3) := by decide +kernel
theorem dX11_wind_12 : decode cX11_wind 12 = .ok (.iconst 2, 1) := by decide +kernel
theorem dX11_wind_13 : decode cX11_wind 13 = .ok (.iaload, 1) := by decide +kernel
theorem dX11_wind_14 : decode cX11_wind 14 = .ok (.iconst 1, 1) := by decide +kernel
theorem dX11_wind_15 : decode cX11_wind 15 = .ok (.isub, 1) := by decide +kernel
theorem dX11_wind_16 : decode cX11_wind 16 = .ok (.invokestatic 90, 3) := by decide +kernel
theorem dX11_wind_19 : decode cX11_wind 19 = .ok (.ifCond .eq 17, 3) := by decide +kernel
theorem dX11_wind_22 : decode cX11_wind 22 = .ok (.aload_n 0, 1) := by decide +kernel
theorem dX11_wind_23 : decode cX11_wind 23 = .ok (.getfield 43, 3) := by decide +kernel
theorem dX11_wind_26 : decode cX11_wind 26 = .ok (.getfield 111, 3) := by decide +kernel
theorem dX11_wind_29 : decode cX11_wind 29 = .ok (.iload_n 1, 1) := by decide +kernel
theorem dX11_wind_30 : decode cX11_wind 30 = .ok (.invokevirtual 142, 3) := by decide +kernel
theorem dX11_wind_33 : decode cX11_wind 33 = .ok (.goto 4, 3) := by decide +kernel
theorem dX11_wind_36 : decode cX11_wind 36 = .ok (.iconst (-1), 1) := by decide +kernel
theorem dX11_wind_37 : decode cX11_wind 37 = .ok (.ireturn, 1) := by decide +kernel
theorem dX12_ails_0 : decode cX12_ails 0 = .ok (.aload_n 0, 1) := by decide +kernel
theorem dX12_ails_1 : decode cX12_ails 1 = .ok (.iload_n 1, 1) := by decide +kernel
theorem dX12_ails_2 : decode cX12_ails 2 = .ok (.invokevirtual 314, 3) := by decide +kernel
theorem dX12_ails_5 : decode cX12_ails 5 = .ok (.ifCond .eq 23, 3) := by decide +kernel
theorem dX12_ails_8 : decode cX12_ails 8 = .ok (.aload_n 0, 1) := by decide +kernel
theorem dX12_ails_9 : decode cX12_ails 9 = .ok (.bipush 46, 2) := by decide +kernel
theorem dX12_ails_11 : decode cX12_ails 11 = .ok (.iload_n 1, 1) := by decide +kernel
theorem dX12_ails_12 : decode cX12_ails 12 = .ok (.iadd, 1) := by decide +kernel
theorem dX12_ails_13 : decode cX12_ails 13 = .ok (.iconst 0, 1) := by decide +kernel
theorem dX12_ails_14 : decode cX12_ails 14 = .ok (.aload_n 0, 1) := by decide +kernel
theorem dX12_ails_15 : decode cX12_ails 15 = .ok (.getfield 39, 3) := by decide +kernel
theorem dX12_ails_18 : decode cX12_ails 18 = .ok (.iconst 4, 1) := by decide +kernel
theorem dX12_ails_19 : decode cX12_ails 19 = .ok (.iaload, 1) := by decide +kernel
theorem dX12_ails_20 : decode cX12_ails 20 = .ok (.iconst 1, 1) := by decide +kernel
theorem dX12_ails_21 : decode cX12_ails 21 = .ok (.isub, 1) := by decide +kernel
theorem dX12_ails_22 : decode cX12_ails 22 = .ok (.invokevirtual 438, 3) := by decide +kernel
theorem dX12_ails_25 : decode cX12_ails 25 = .ok (.goto 4, 3) := by decide +kernel
theorem dX12_ails_28 : decode cX12_ails 28 = .ok (.iconst (-1), 1) := by decide +kernel
theorem dX12_ails_29 : decode cX12_ails 29 = .ok (.ireturn, 1) := by decide +kernel
theorem dX12_down_0 : decode cX12_down 0 = .ok (.aload_n 0, 1) := by decide +kernel
theorem dX12_down_1 : decode cX12_down 1 = .ok (.iload_n 1, 1) := by decide +kernel
theorem dX12_down_2 : decode cX12_down 2 = .ok (.invokevirtual 314, 3) := by decide +kernel
theorem dX12_down_5 : decode cX12_down 5 = .ok (.ifCond .eq 11, 3) := by decide +kernel
theorem dX12_down_8 : decode cX12_down 8 = .ok (.aload_n 0, 1) := by decide +kernel
theorem dX12_down_9 : decode cX12_down 9 = .ok (.iload_n 2, 1) := by decide +kernel
theorem dX12_down_10 : decode cX12_down 10 = .ok (.invokevirtual 309, 3) := by decide +kernel
theorem dX12_down_13 : decode cX12_down 13 = .ok (.ifCond .ne 5, 3) := by decide +kernel
theorem dX12_down_16 : decode cX12_down 16 = .ok (.iconst (-1), 1) := by decide +kernel
theorem dX12_down_17 : decode cX12_down 17 = .ok (.ireturn, 1) := by decide +kernel
theorem dX12_down_18 : decode cX12_down 18 = .ok (.aload_n 0, 1) := by decide +kernel
theorem dX12_down_19 : decode cX12_down 19 = .ok (.iload_n 1, 1) := by decide +kernel
theorem dX12_down_20 : decode cX12_down 20 = .ok (.iload_n 2, 1) := by decide +kernel
theorem dX12_down_21 : decode cX12_down 21 = .ok (.invokevirtual 341, 3) := by decide +kernel
theorem dX12_down_24 : decode cX12_down 24 = .ok (.istore_n 3, 1) := by decide +kernel
theorem dX12_down_25 : decode cX12_down 25 = .ok (.iload_n 3, 1) := by decide +kernel
theorem dX12_down_26 : decode cX12_down 26 = .ok (.ifCond .ge 8, 3) := by decide +kernel
theorem dX12_down_29 : decode cX12_down 29 = .ok (.bipush (-2), 2) := by decide +kernel
theorem dX12_down_31 : decode cX12_down 31 = .ok (.goto 4, 3) := by decide +kernel
theorem dX12_down_34 : decode cX12_down 34 = .ok (.iload_n 3, 1) := by decide +kernel
theorem dX12_down_35 : decode cX12_down 35 = .ok (.ireturn, 1) := by decide +kernel
theorem dX12_hold_0 : decode cX12_hold 0 = .ok (.aload_n 0, 1) := by decide +kernel
theorem dX12_hold_1 : decode cX12_hold 1 = .ok (.iload_n 1, 1) := by decide +kernel
theorem dX12_hold_2 : decode cX12_hold 2 = .ok (.invokevirtual 314, 3) := by decide +kernel
theorem dX12_hold_5 : decode cX12_hold 5 = .ok (.ifCond .ne 5, 3) := by decide +kernel
theorem dX12_hold_8 : decode cX12_hold 8 = .ok (.iconst (-1), 1) := by decide +kernel
theorem dX12_hold_9 : decode cX12_hold 9 = .ok (.ireturn, 1) := by decide +kernel
theorem dX12_hold_10 : decode cX12_hold 10 = .ok (.bipush (-2), 2) := by decide +kernel
theorem dX12_hold_12 : decode cX12_hold 12 = .ok (.istore_n 2, 1) := by decide +kernel
theorem dX12_hold_13 : decode cX12_hold 13 = .ok (.aload_n 0, 1) := by decide +kernel
theorem dX12_hold_14 : decode cX12_hold 14 = .ok (.invokevirtual 372, 3) := by decide +kernel
theorem dX12_hold_17 : decode cX12_hold 17 = .ok (.iconst 0, 1) := by decide +kernel
theorem dX12_hold_18 : decode cX12_hold 18 = .ok (.istore_n 3, 1) := by decide +kernel
theorem dX12_hold_19 : decode cX12_hold 19 = .ok (.iload_n 3, 1) := by decide +kernel
theorem dX12_hold_20 : decode cX12_hold 20 = .ok (.bipush 60, 2) := by decide +kernel
theorem dX12_hold_22 : decode cX12_hold 22 = .ok (.if_icmp .gt 60, 3) := by decide +kernel
theorem dX12_hold_25 : decode cX12_hold 25 = .ok (.iload_n 2, 1) := by decide +kernel
theorem dX12_hold_26 : decode cX12_hold 26 = .ok (.ifCond .ge 56, 3) := by decide +kernel
theorem dX12_hold_29 : decode cX12_hold 29 = .ok (.aload_n 0, 1) := by decide +kernel
theorem dX12_hold_30 : decode cX12_hold 30 = .ok (.iload_n 1, 1) := by decide +kernel
theorem dX12_hold_31 : decode cX12_hold 31 = .ok (.aload_n 0, 1) := by decide +kernel
theorem dX12_hold_32 : decode cX12_hold 32 = .ok (.getfield 39, 3) := by decide +kernel
theorem dX12_hold_35 : decode cX12_hold 35 = .ok (.bipush 46, 2) := by decide +kernel
theorem dX12_hold_37 : decode cX12_hold 37 = .ok (.iload_n 1, 1) := by decide +kernel
theorem dX12_hold_38 : decode cX12_hold 38 = .ok (.iadd, 1) := by decide +kernel
theorem dX12_hold_39 : decode cX12_hold 39 = .ok (.iaload, 1) := by decide +kernel
theorem dX12_hold_40 : decode cX12_hold 40 = .ok (.invokevirtual 341, 3) := by decide +kernel
theorem dX12_hold_43 : decode cX12_hold 43 = .ok (.aload_n 0, 1) := by decide +kernel
theorem dX12_hold_44 : decode cX12_hold 44 = .ok (.getfield 39, 3) := by decide +kernel
theorem dX12_hold_47 : decode cX12_hold 47 = .ok (.bipush 13, 2) := by decide +kernel
theorem dX12_hold_49 : decode cX12_hold 49 = .ok (.aload_n 0, 1) := by decide +kernel
theorem dX12_hold_50 : decode cX12_hold 50 = .ok (.getfield 39, 3) := by decide +kernel
theorem dX12_hold_53 : decode cX12_hold 53 = .ok (.bipush 46, 2) := by decide +kernel
theorem dX12_hold_55 : decode cX12_hold 55 = .ok (.iload_n 1, 1) := by decide +kernel
theorem dX12_hold_56 : decode cX12_hold 56 = .ok (.iadd, 1) := by decide +kernel
theorem dX12_hold_57 : decode cX12_hold 57 = .ok (.iaload, 1) := by decide +kernel
theorem dX12_hold_58 : decode cX12_hold 58 = .ok (.iadd, 1) := by decide +kernel
theorem dX12_hold_59 : decode cX12_hold 59 = .ok (.iaload, 1) := by decide +kernel
theorem dX12_hold_60 : decode cX12_hold 60 = .ok (.if_icmp .ne 5, 3) := by decide +kernel
theorem dX12_hold_63 : decode cX12_hold 63 = .ok (.iload_n 3, 1) := by decide +kernel
theorem dX12_hold_64 : decode cX12_hold 64 = .ok (.istore_n 2, 1) := by decide +kernel
theorem dX12_hold_65 : decode cX12_hold 65 = .ok (.aload_n 0, 1) := by decide +kernel
theorem dX12_hold_66 : decode cX12_hold 66 = .ok (.getfield 39, 3) := by decide +kernel
theorem dX12_hold_69 : decode cX12_hold 69 = .ok (.bipush 11, 2) := by decide +kernel
theorem dX12_hold_71 : decode cX12_hold 71 = .ok (.dup2, 1) := by decide +kernel
theorem dX12_hold_72 : decode cX12_hold 72 = .ok (.iaload, 1) := by decide +kernel
theorem dX12_hold_73 : decode cX12_hold 73 = .ok (.iconst 1, 1) := by decide +kernel
theorem dX12_hold_74 : decode cX12_hold 74 = .ok (.iadd, 1) := by decide +kernel
theorem dX12_hold_75 : decode cX12_hold 75 = .ok (.iastore, 1) := by decide +kernel
theorem dX12_hold_76 : decode cX12_hold 76 = .ok (.iinc 3 1, 3) := by decide +kernel
theorem dX12_hold_79 : decode cX12_hold 79 = .ok (.goto (-60), 3) := by decide +kernel
theorem dX12_hold_82 : decode cX12_hold 82 = .ok (.aload_n 0, 1) := by decide +kernel
theorem dX12_hold_83 : decode cX12_hold 83 = .ok (.invokevirtual 378, 3) := by decide +kernel
theorem dX12_hold_86 : decode cX12_hold 86 = .ok (.iload_n 2, 1) := by decide +kernel
theorem dX12_hold_87 : decode cX12_hold 87 = .ok (.ireturn, 1) := by decide +kernel
theorem dX12_look_0 : decode cX12_look 0 = .ok (.aload_n 0, 1) := by decide +kernel
theorem dX12_look_1 : decode cX12_look 1 = .ok (.invokevirtual 294, 3) := by decide +kernel
theorem dX12_look_4 : decode cX12_look 4 = .ok (.ifCond .eq 25, 3) := by decide +kernel
theorem dX12_look_7 : decode cX12_look 7 = .ok (.iload_n 1, 1) := by decide +kernel
theorem dX12_look_8 : decode cX12_look 8 = .ok (.i2l, 1) := by decide +kernel
theorem dX12_look_9 : decode cX12_look 9 = .ok (.lconst 0, 1) := by decide +kernel
theorem dX12_look_10 : decode cX12_look 10 = .ok (.ldc2_w 404, 3) := by decide +kernel
theorem dX12_look_13 : decode cX12_look 13 = .ok (.invokestatic 127, 3) := by decide +kernel
theorem dX12_look_16 : decode cX12_look 16 = .ok (.ifCond .eq 13, 3) := by decide +kernel
theorem dX12_look_19 : decode cX12_look 19 = .ok (.iload_n 2, 1) := by decide +kernel
theorem dX12_look_20 : decode cX12_look 20 = .ok (.i2l, 1) := by decide +kernel
theorem dX12_look_21 : decode cX12_look 21 = .ok (.lconst 0, 1) := by decide +kernel
theorem dX12_look_22 : decode cX12_look 22 = .ok (.lconst 1, 1) := by decide +kernel
theorem dX12_look_23 : decode cX12_look 23 = .ok (.invokestatic 127, 3) := by decide +kernel
theorem dX12_look_26 : decode cX12_look 26 = .ok (.ifCond .ne 5, 3) := by decide +kernel
theorem dX12_look_29 : decode cX12_look 29 = .ok (.iconst (-1), 1) := by decide +kernel
theorem dX12_look_30 : decode cX12_look 30 = .ok (.ireturn, 1) := by decide +kernel
theorem dX12_look_31 : decode cX12_look 31 = .ok (.aload_n 0, 1) := by decide +kernel
theorem dX12_look_32 : decode cX12_look 32 = .ok (.iload_n 1, 1) := by decide +kernel
theorem dX12_look_33 : decode cX12_look 33 = .ok (.invokevirtual 432, 3) := by decide +kernel
theorem dX12_look_36 : decode cX12_look 36 = .ok (.bipush (-2), 2) := by decide +kernel
theorem dX12_look_38 : decode cX12_look 38 = .ok (.istore_n 3, 1) := by decide +kernel
theorem dX12_look_39 : decode cX12_look 39 = .ok (.bipush (-2), 2) := by decide +kernel
theorem dX12_look_41 : decode cX12_look 41 = .ok (.istore 4, 2) := by decide +kernel
theorem dX12_look_43 : decode cX12_look 43 = .ok (.iconst 0, 1) := by decide +kernel
theorem dX12_look_44 : decode cX12_look 44 = .ok (.istore 5, 2) := by decide +kernel
theorem dX12_look_46 : decode cX12_look 46 = .ok (.iload 5, 2) := by decide +kernel
theorem dX12_look_48 : decode cX12_look 48 = .ok (.aload_n 0, 1) := by decide +kernel
theorem dX12_look_49 : decode cX12_look 49 = .ok (.getfield 39, 3) := by decide +kernel
theorem dX12_look_52 : decode cX12_look 52 = .ok (.iconst 5, 1) := by decide +kernel
theorem dX12_look_53 : decode cX12_look 53 = .ok (.iaload, 1) := by decide +kernel
theorem dX12_look_54 : decode cX12_look 54 = .ok (.if_icmp .ge 43, 3) := by decide +kernel
theorem dX12_look_57 : decode cX12_look 57 = .ok (.aload_n 0, 1) := by decide +kernel
theorem dX12_look_58 : decode cX12_look 58 = .ok (.iload 5, 2) := by decide +kernel
theorem dX12_look_60 : decode cX12_look 60 = .ok (.invokevirtual 435, 3) := by decide +kernel
theorem dX12_look_63 : decode cX12_look 63 = .ok (.istore 6, 2) := by decide +kernel
theorem dX12_look_65 : decode cX12_look 65 = .ok (.iload 6, 2) := by decide +kernel
theorem dX12_look_67 : decode cX12_look 67 = .ok (.ifCond .eq 24, 3) := by decide +kernel
theorem dX12_look_70 : decode cX12_look 70 = .ok (.iload_n 3, 1) := by decide +kernel
theorem dX12_look_71 : decode cX12_look 71 = .ok (.ifCond .lt 13, 3) := by decide +kernel
theorem dX12_look_74 : decode cX12_look 74 = .ok (.iload 6, 2) := by decide +kernel
theorem dX12_look_76 : decode cX12_look 76 = .ok (.iload 4, 2) := by decide +kernel
theorem dX12_look_78 : decode cX12_look 78 = .ok (.if_icmp .lt 6, 3) := by decide +kernel
theorem dX12_look_81 : decode cX12_look 81 = .ok (.goto 10, 3) := by decide +kernel
theorem dX12_look_84 : decode cX12_look 84 = .ok (.iload 5, 2) := by decide +kernel
theorem dX12_look_86 : decode cX12_look 86 = .ok (.istore_n 3, 1) := by decide +kernel
theorem dX12_look_87 : decode cX12_look 87 = .ok (.iload 6, 2) := by decide +kernel
theorem dX12_look_89 : decode cX12_look 89 = .ok (.istore 4, 2) := by decide +kernel
theorem dX12_look_91 : decode cX12_look 91 = .ok (.iinc 5 1, 3) := by decide +kernel
theorem dX12_look_94 : decode cX12_look 94 = .ok (.goto (-48), 3) := by decide +kernel
theorem dX12_look_97 : decode cX12_look 97 = .ok (.iload_n 2, 1) := by decide +kernel
theorem dX12_look_98 : decode cX12_look 98 = .ok (.ifCond .ne 7, 3) := by decide +kernel
theorem dX12_look_101 : decode cX12_look 101 = .ok (.iload_n 3, 1) := by decide +kernel
theorem dX12_look_102 : decode cX12_look 102 = .ok (.goto 5, 3) := by decide +kernel
theorem dX12_look_105 : decode cX12_look 105 = .ok (.iload 4, 2) := by decide +kernel
theorem dX12_look_107 : decode cX12_look 107 = .ok (.ireturn, 1) := by decide +kernel
theorem dX12_pull_0 : decode cX12_pull 0 = .ok (.aload_n 0, 1) := by decide +kernel
theorem dX12_pull_1 : decode cX12_pull 1 = .ok (.iload_n 1, 1) := by decide +kernel
theorem dX12_pull_2 : decode cX12_pull 2 = .ok (.invokevirtual 309, 3) := by decide +kernel
theorem dX12_pull_5 : decode cX12_pull 5 = .ok (.ifCond .eq 23, 3) := by decide +kernel
theorem dX12_pull_8 : decode cX12_pull 8 = .ok (.aload_n 0, 1) := by decide +kernel
theorem dX12_pull_9 : decode cX12_pull 9 = .ok (.iload_n 2, 1) := by decide +kernel
theorem dX12_pull_10 : decode cX12_pull 10 = .ok (.invokevirtual 314, 3) := by decide +kernel
theorem dX12_pull_13 : decode cX12_pull 13 = .ok (.ifCond .eq 15, 3) := by decide +kernel
theorem dX12_pull_16 : decode cX12_pull 16 = .ok (.aload_n 0, 1) := by decide +kernel
theorem dX12_pull_17 : decode cX12_pull 17 = .ok (.getfield 39, 3) := by decide +kernel
theorem dX12_pull_20 : decode cX12_pull 20 = .ok (.bipush 19, 2) := by decide +kernel
theorem dX12_pull_22 : decode cX12_pull 22 = .ok (.iload_n 1, 1) := by decide +kernel
theorem dX12_pull_23 : decode cX12_pull 23 = .ok (.iadd, 1) := by decide +kernel
theorem dX12_pull_24 : decode cX12_pull 24 = .ok (.iaload, 1) := by decide +kernel
theorem dX12_pull_25 : decode cX12_pull 25 = .ok (.ifCond .ne 5, 3) := by decide +kernel
theorem dX12_pull_28 : decode cX12_pull 28 = .ok (.iconst (-1), 1) := by decide +kernel
end
section
theorem dX12_pull_29 : decode cX12_pull 29 = .ok (.ireturn, 1) := by decide +kernel
theorem dX12_pull_30 : decode cX12_pull 30 = .ok (.aload_n 0, 1) := by decide +kernel
theorem dX12_pull_31 : decode cX12_pull 31 = .ok (.invokevirtual 363, 3) := by decide +kernel
theorem dX12_pull_34 : decode cX12_pull 34 = .ok (.aload_n 0, 1) := by decide +kernel
theorem dX12_pull_35 : decode cX12_pull 35 = .ok (.iload_n 2, 1) := by decide +kernel
theorem dX12_pull_36 : decode cX12_pull 36 = .ok (.invokevirtual 320, 3) := by decide +kernel
theorem dX12_pull_39 : decode cX12_pull 39 = .ok (.aload_n 0, 1) := by decide +kernel
theorem dX12_pull_40 : decode cX12_pull 40 = .ok (.getfield 39, 3) := by decide +kernel
theorem dX12_pull_43 : decode cX12_pull 43 = .ok (.bipush 19, 2) := by decide +kernel
theorem dX12_pull_45 : decode cX12_pull 45 = .ok (.iload_n 1, 1) := by decide +kernel
theorem dX12_pull_46 : decode cX12_pull 46 = .ok (.iadd, 1) := by decide +kernel
theorem dX12_pull_47 : decode cX12_pull 47 = .ok (.iaload, 1) := by decide +kernel
theorem dX12_pull_48 : decode cX12_pull 48 = .ok (.iadd, 1) := by decide +kernel
theorem dX12_pull_49 : decode cX12_pull 49 = .ok (.istore_n 3, 1) := by decide +kernel
theorem dX12_pull_50 : decode cX12_pull 50 = .ok (.aload_n 0, 1) := by decide +kernel
theorem dX12_pull_51 : decode cX12_pull 51 = .ok (.getfield 39, 3) := by decide +kernel
theorem dX12_pull_54 : decode cX12_pull 54 = .ok (.bipush 25, 2) := by decide +kernel
theorem dX12_pull_56 : decode cX12_pull 56 = .ok (.iconst 3, 1) := by decide +kernel
theorem dX12_pull_57 : decode cX12_pull 57 = .ok (.iload_n 2, 1) := by decide +kernel
theorem dX12_pull_58 : decode cX12_pull 58 = .ok (.imul, 1) := by decide +kernel
theorem dX12_pull_59 : decode cX12_pull 59 = .ok (.iadd, 1) := by decide +kernel
theorem dX12_pull_60 : decode cX12_pull 60 = .ok (.iconst 2, 1) := by decide +kernel
theorem dX12_pull_61 : decode cX12_pull 61 = .ok (.iadd, 1) := by decide +kernel
theorem dX12_pull_62 : decode cX12_pull 62 = .ok (.iload_n 3, 1) := by decide +kernel
theorem dX12_pull_63 : decode cX12_pull 63 = .ok (.bipush 99, 2) := by decide +kernel
theorem dX12_pull_65 : decode cX12_pull 65 = .ok (.if_icmp .le 8, 3) := by decide +kernel
theorem dX12_pull_68 : decode cX12_pull 68 = .ok (.bipush 99, 2) := by decide +kernel
theorem dX12_pull_70 : decode cX12_pull 70 = .ok (.goto 4, 3) := by decide +kernel
theorem dX12_pull_73 : decode cX12_pull 73 = .ok (.iload_n 3, 1) := by decide +kernel
theorem dX12_pull_74 : decode cX12_pull 74 = .ok (.iastore, 1) := by decide +kernel
theorem dX12_pull_75 : decode cX12_pull 75 = .ok (.aload_n 0, 1) := by decide +kernel
theorem dX12_pull_76 : decode cX12_pull 76 = .ok (.getfield 39, 3) := by decide +kernel
theorem dX12_pull_79 : decode cX12_pull 79 = .ok (.bipush 19, 2) := by decide +kernel
theorem dX12_pull_81 : decode cX12_pull 81 = .ok (.iload_n 1, 1) := by decide +kernel
theorem dX12_pull_82 : decode cX12_pull 82 = .ok (.iadd, 1) := by decide +kernel
theorem dX12_pull_83 : decode cX12_pull 83 = .ok (.iconst 0, 1) := by decide +kernel
theorem dX12_pull_84 : decode cX12_pull 84 = .ok (.iastore, 1) := by decide +kernel
theorem dX12_pull_85 : decode cX12_pull 85 = .ok (.aload_n 0, 1) := by decide +kernel
theorem dX12_pull_86 : decode cX12_pull 86 = .ok (.iload_n 2, 1) := by decide +kernel
theorem dX12_pull_87 : decode cX12_pull 87 = .ok (.invokevirtual 320, 3) := by decide +kernel
theorem dX12_pull_90 : decode cX12_pull 90 = .ok (.ireturn, 1) := by decide +kernel
theorem dX12_ring_0 : decode cX12_ring 0 = .ok (.aload_n 0, 1) := by decide +kernel
theorem dX12_ring_1 : decode cX12_ring 1 = .ok (.iload_n 1, 1) := by decide +kernel
theorem dX12_ring_2 : decode cX12_ring 2 = .ok (.invokevirtual 309, 3) := by decide +kernel
theorem dX12_ring_5 : decode cX12_ring 5 = .ok (.ifCond .eq 15, 3) := by decide +kernel
theorem dX12_ring_8 : decode cX12_ring 8 = .ok (.iload_n 2, 1) := by decide +kernel
theorem dX12_ring_9 : decode cX12_ring 9 = .ok (.i2l, 1) := by decide +kernel
theorem dX12_ring_10 : decode cX12_ring 10 = .ok (.lconst 0, 1) := by decide +kernel
theorem dX12_ring_11 : decode cX12_ring 11 = .ok (.ldc2_w 312, 3) := by decide +kernel
theorem dX12_ring_14 : decode cX12_ring 14 = .ok (.invokestatic 127, 3) := by decide +kernel
theorem dX12_ring_17 : decode cX12_ring 17 = .ok (.ifCond .ne 5, 3) := by decide +kernel
theorem dX12_ring_20 : decode cX12_ring 20 = .ok (.iconst (-1), 1) := by decide +kernel
theorem dX12_ring_21 : decode cX12_ring 21 = .ok (.ireturn, 1) := by decide +kernel
theorem dX12_ring_22 : decode cX12_ring 22 = .ok (.iload_n 2, 1) := by decide +kernel
theorem dX12_ring_23 : decode cX12_ring 23 = .ok (.ifCond .ne 15, 3) := by decide +kernel
theorem dX12_ring_26 : decode cX12_ring 26 = .ok (.aload_n 0, 1) := by decide +kernel
theorem dX12_ring_27 : decode cX12_ring 27 = .ok (.getfield 39, 3) := by decide +kernel
theorem dX12_ring_30 : decode cX12_ring 30 = .ok (.bipush 13, 2) := by decide +kernel
theorem dX12_ring_32 : decode cX12_ring 32 = .ok (.iload_n 1, 1) := by decide +kernel
theorem dX12_ring_33 : decode cX12_ring 33 = .ok (.iadd, 1) := by decide +kernel
theorem dX12_ring_34 : decode cX12_ring 34 = .ok (.iaload, 1) := by decide +kernel
theorem dX12_ring_35 : decode cX12_ring 35 = .ok (.goto 29, 3) := by decide +kernel
theorem dX12_ring_38 : decode cX12_ring 38 = .ok (.iload_n 2, 1) := by decide +kernel
theorem dX12_ring_39 : decode cX12_ring 39 = .ok (.iconst 1, 1) := by decide +kernel
theorem dX12_ring_40 : decode cX12_ring 40 = .ok (.if_icmp .ne 15, 3) := by decide +kernel
theorem dX12_ring_43 : decode cX12_ring 43 = .ok (.aload_n 0, 1) := by decide +kernel
theorem dX12_ring_44 : decode cX12_ring 44 = .ok (.getfield 39, 3) := by decide +kernel
theorem dX12_ring_47 : decode cX12_ring 47 = .ok (.bipush 40, 2) := by decide +kernel
theorem dX12_ring_49 : decode cX12_ring 49 = .ok (.iload_n 1, 1) := by decide +kernel
theorem dX12_ring_50 : decode cX12_ring 50 = .ok (.iadd, 1) := by decide +kernel
theorem dX12_ring_51 : decode cX12_ring 51 = .ok (.iaload, 1) := by decide +kernel
theorem dX12_ring_52 : decode cX12_ring 52 = .ok (.goto 12, 3) := by decide +kernel
theorem dX12_ring_55 : decode cX12_ring 55 = .ok (.aload_n 0, 1) := by decide +kernel
theorem dX12_ring_56 : decode cX12_ring 56 = .ok (.getfield 39, 3) := by decide +kernel
theorem dX12_ring_59 : decode cX12_ring 59 = .ok (.bipush 19, 2) := by decide +kernel
theorem dX12_ring_61 : decode cX12_ring 61 = .ok (.iload_n 1, 1) := by decide +kernel
theorem dX12_ring_62 : decode cX12_ring 62 = .ok (.iadd, 1) := by decide +kernel
theorem dX12_ring_63 : decode cX12_ring 63 = .ok (.iaload, 1) := by decide +kernel
theorem dX12_ring_64 : decode cX12_ring 64 = .ok (.ireturn, 1) := by decide +kernel
theorem dX12_undo_0 : decode cX12_undo 0 = .ok (.aload_n 0, 1) := by decide +kernel
theorem dX12_undo_1 : decode cX12_undo 1 = .ok (.getfield 276, 3) := by decide +kernel
theorem dX12_undo_4 : decode cX12_undo 4 = .ok (.ifCond .ne 5, 3) := by decide +kernel
theorem dX12_undo_7 : decode cX12_undo 7 = .ok (.iconst (-1), 1) := by decide +kernel
theorem dX12_undo_8 : decode cX12_undo 8 = .ok (.ireturn, 1) := by decide +kernel
theorem dX12_undo_9 : decode cX12_undo 9 = .ok (.aload_n 0, 1) := by decide +kernel
theorem dX12_undo_10 : decode cX12_undo 10 = .ok (.dup, 1) := by decide +kernel
theorem dX12_undo_11 : decode cX12_undo 11 = .ok (.getfield 276, 3) := by decide +kernel
theorem dX12_undo_14 : decode cX12_undo 14 = .ok (.iconst 1, 1) := by decide +kernel
theorem dX12_undo_15 : decode cX12_undo 15 = .ok (.isub, 1) := by decide +kernel
theorem dX12_undo_16 : decode cX12_undo 16 = .ok (.putfield 276, 3) := by decide +kernel
theorem dX12_undo_19 : decode cX12_undo 19 = .ok (.iconst 0, 1) := by decide +kernel
theorem dX12_undo_20 : decode cX12_undo 20 = .ok (.istore_n 1, 1) := by decide +kernel
theorem dX12_undo_21 : decode cX12_undo 21 = .ok (.iload_n 1, 1) := by decide +kernel
theorem dX12_undo_22 : decode cX12_undo 22 = .ok (.bipush 30, 2) := by decide +kernel
theorem dX12_undo_24 : decode cX12_undo 24 = .ok (.if_icmp .ge 32, 3) := by decide +kernel
theorem dX12_undo_27 : decode cX12_undo 27 = .ok (.aload_n 0, 1) := by decide +kernel
theorem dX12_undo_28 : decode cX12_undo 28 = .ok (.getfield 39, 3) := by decide +kernel
theorem dX12_undo_31 : decode cX12_undo 31 = .ok (.bipush 10, 2) := by decide +kernel
theorem dX12_undo_33 : decode cX12_undo 33 = .ok (.iload_n 1, 1) := by decide +kernel
theorem dX12_undo_34 : decode cX12_undo 34 = .ok (.iadd, 1) := by decide +kernel
theorem dX12_undo_35 : decode cX12_undo 35 = .ok (.aload_n 0, 1) := by decide +kernel
theorem dX12_undo_36 : decode cX12_undo 36 = .ok (.getfield 55, 3) := by decide +kernel
theorem dX12_undo_39 : decode cX12_undo 39 = .ok (.bipush 30, 2) := by decide +kernel
theorem dX12_undo_41 : decode cX12_undo 41 = .ok (.aload_n 0, 1) := by decide +kernel
theorem dX12_undo_42 : decode cX12_undo 42 = .ok (.getfield 276, 3) := by decide +kernel
theorem dX12_undo_45 : decode cX12_undo 45 = .ok (.imul, 1) := by decide +kernel
theorem dX12_undo_46 : decode cX12_undo 46 = .ok (.iload_n 1, 1) := by decide +kernel
theorem dX12_undo_47 : decode cX12_undo 47 = .ok (.iadd, 1) := by decide +kernel
theorem dX12_undo_48 : decode cX12_undo 48 = .ok (.iaload, 1) := by decide +kernel
theorem dX12_undo_49 : decode cX12_undo 49 = .ok (.iastore, 1) := by decide +kernel
theorem dX12_undo_50 : decode cX12_undo 50 = .ok (.iinc 1 1, 3) := by decide +kernel
theorem dX12_undo_53 : decode cX12_undo 53 = .ok (.goto (-32), 3) := by decide +kernel
theorem dX12_undo_56 : decode cX12_undo 56 = .ok (.aload_n 0, 1) := by decide +kernel
theorem dX12_undo_57 : decode cX12_undo 57 = .ok (.getfield 276, 3) := by decide +kernel
theorem dX12_undo_60 : decode cX12_undo 60 = .ok (.ireturn, 1) := by decide +kernel
theorem dX1_clear_0 : decode cX1_clear 0 = .ok (.aload_n 0, 1) := by decide +kernel
theorem dX1_clear_1 : decode cX1_clear 1 = .ok (.getfield 11, 3) := by decide +kernel
theorem dX1_clear_4 : decode cX1_clear 4 = .ok (.iconst 0, 1) := by decide +kernel
theorem dX1_clear_5 : decode cX1_clear 5 = .ok (.invokestatic 21, 3) := by decide +kernel
theorem dX1_clear_8 : decode cX1_clear 8 = .ok (.return_, 1) := by decide +kernel
theorem dX11_ahead_0 : decode cX11_ahead 0 = .ok (.iload_n 3, 1) := by decide +kernel
theorem dX11_ahead_1 : decode cX11_ahead 1 = .ok (.iconst 2, 1) := by decide +kernel
theorem dX11_ahead_2 : decode cX11_ahead 2 = .ok (.if_icmp .ne 7, 3) := by decide +kernel
theorem dX11_ahead_5 : decode cX11_ahead 5 = .ok (.iconst 1, 1) := by decide +kernel
theorem dX11_ahead_6 : decode cX11_ahead 6 = .ok (.goto 4, 3) := by decide +kernel
theorem dX11_ahead_9 : decode cX11_ahead 9 = .ok (.iconst 0, 1) := by decide +kernel
theorem dX11_ahead_10 : decode cX11_ahead 10 = .ok (.istore 4, 2) := by decide +kernel
theorem dX11_ahead_12 : decode cX11_ahead 12 = .ok (.aload_n 0, 1) := by decide +kernel
theorem dX11_ahead_13 : decode cX11_ahead 13 = .ok (.getfield 43, 3) := by decide +kernel
theorem dX11_ahead_16 : decode cX11_ahead 16 = .ok (.getfield 111, 3) := by decide +kernel
theorem dX11_ahead_19 : decode cX11_ahead 19 = .ok (.invokevirtual 152, 3) := by decide +kernel
theorem dX11_ahead_22 : decode cX11_ahead 22 = .ok (.ifCond .eq 22, 3) := by decide +kernel
theorem dX11_ahead_25 : decode cX11_ahead 25 = .ok (.iload_n 2, 1) := by decide +kernel
theorem dX11_ahead_26 : decode cX11_ahead 26 = .ok (.iconst 0, 1) := by decide +kernel
theorem dX11_ahead_27 : decode cX11_ahead 27 = .ok (.bipush 100, 2) := by decide +kernel
theorem dX11_ahead_29 : decode cX11_ahead 29 = .ok (.invokestatic 90, 3) := by decide +kernel
theorem dX11_ahead_32 : decode cX11_ahead 32 = .ok (.ifCond .eq 12, 3) := by decide +kernel
theorem dX11_ahead_35 : decode cX11_ahead 35 = .ok (.iload_n 3, 1) := by decide +kernel
theorem dX11_ahead_36 : decode cX11_ahead 36 = .ok (.iconst 0, 1) := by decide +kernel
theorem dX11_ahead_37 : decode cX11_ahead 37 = .ok (.iconst 2, 1) := by decide +kernel
theorem dX11_ahead_38 : decode cX11_ahead 38 = .ok (.invokestatic 90, 3) := by decide +kernel
theorem dX11_ahead_41 : decode cX11_ahead 41 = .ok (.ifCond .ne 5, 3) := by decide +kernel
theorem dX11_ahead_44 : decode cX11_ahead 44 = .ok (.iconst (-1), 1) := by decide +kernel
theorem dX11_ahead_45 : decode cX11_ahead 45 = .ok (.ireturn, 1) := by decide +kernel
theorem dX11_ahead_46 : decode cX11_ahead 46 = .ok (.iload 4, 2) := by decide +kernel
theorem dX11_ahead_48 : decode cX11_ahead 48 = .ok (.ifCond .ne 19, 3) := by decide +kernel
theorem dX11_ahead_51 : decode cX11_ahead 51 = .ok (.aload_n 0, 1) := by decide +kernel
theorem dX11_ahead_52 : decode cX11_ahead 52 = .ok (.getfield 43, 3) := by decide +kernel
theorem dX11_ahead_55 : decode cX11_ahead 55 = .ok (.getfield 111, 3) := by decide +kernel
theorem dX11_ahead_58 : decode cX11_ahead 58 = .ok (.iload_n 1, 1) := by decide +kernel
theorem dX11_ahead_59 : decode cX11_ahead 59 = .ok (.invokevirtual 139, 3) := by decide +kernel
theorem dX11_ahead_62 : decode cX11_ahead 62 = .ok (.ifCond .ne 5, 3) := by decide +kernel
theorem dX11_ahead_65 : decode cX11_ahead 65 = .ok (.iconst (-1), 1) := by decide +kernel
theorem dX11_ahead_66 : decode cX11_ahead 66 = .ok (.ireturn, 1) := by decide +kernel
theorem dX11_ahead_67 : decode cX11_ahead 67 = .ok (.aload_n 0, 1) := by decide +kernel
theorem dX11_ahead_68 : decode cX11_ahead 68 = .ok (.getfield 61, 3) := by decide +kernel
theorem dX11_ahead_71 : decode cX11_ahead 71 = .ok (.aload_n 0, 1) := by decide +kernel
theorem dX11_ahead_72 : decode cX11_ahead 72 = .ok (.getfield 43, 3) := by decide +kernel
theorem dX11_ahead_75 : decode cX11_ahead 75 = .ok (.getfield 111, 3) := by decide +kernel
theorem dX11_ahead_78 : decode cX11_ahead 78 = .ok (.aload_n 0, 1) := by decide +kernel
theorem dX11_ahead_79 : decode cX11_ahead 79 = .ok (.invokevirtual 159, 3) := by decide +kernel
theorem dX11_ahead_82 : decode cX11_ahead 82 = .ok (.invokevirtual 162, 3) := by decide +kernel
theorem dX11_ahead_85 : decode cX11_ahead 85 = .ok (.aload_n 0, 1) := by decide +kernel
theorem dX11_ahead_86 : decode cX11_ahead 86 = .ok (.getfield 61, 3) := by decide +kernel
theorem dX11_ahead_89 : decode cX11_ahead 89 = .ok (.iload_n 2, 1) := by decide +kernel
theorem dX11_ahead_90 : decode cX11_ahead 90 = .ok (.invokevirtual 187, 3) := by decide +kernel
theorem dX11_ahead_93 : decode cX11_ahead 93 = .ok (.iload 4, 2) := by decide +kernel
theorem dX11_ahead_95 : decode cX11_ahead 95 = .ok (.ifCond .eq 17, 3) := by decide +kernel
theorem dX11_ahead_98 : decode cX11_ahead 98 = .ok (.aload_n 0, 1) := by decide +kernel
theorem dX11_ahead_99 : decode cX11_ahead 99 = .ok (.getfield 61, 3) := by decide +kernel
theorem dX11_ahead_102 : decode cX11_ahead 102 = .ok (.getfield 170, 3) := by decide +kernel
theorem dX11_ahead_105 : decode cX11_ahead 105 = .ok (.getfield 124, 3) := by decide +kernel
theorem dX11_ahead_108 : decode cX11_ahead 108 = .ok (.bipush 7, 2) := by decide +kernel
theorem dX11_ahead_110 : decode cX11_ahead 110 = .ok (.iaload, 1) := by decide +kernel
theorem dX11_ahead_111 : decode cX11_ahead 111 = .ok (.ireturn, 1) := by decide +kernel
theorem dX11_ahead_112 : decode cX11_ahead 112 = .ok (.aload_n 0, 1) := by decide +kernel
theorem dX11_ahead_113 : decode cX11_ahead 113 = .ok (.getfield 61, 3) := by decide +kernel
theorem dX11_ahead_116 : decode cX11_ahead 116 = .ok (.getfield 170, 3) := by decide +kernel
theorem dX11_ahead_119 : decode cX11_ahead 119 = .ok (.getfield 124, 3) := by decide +kernel
theorem dX11_ahead_122 : decode cX11_ahead 122 = .ok (.iload_n 3, 1) := by decide +kernel
theorem dX11_ahead_123 : decode cX11_ahead 123 = .ok (.ifCond .ne 8, 3) := by decide +kernel
theorem dX11_ahead_126 : decode cX11_ahead 126 = .ok (.bipush 53, 2) := by decide +kernel
theorem dX11_ahead_128 : decode cX11_ahead 128 = .ok (.goto 5, 3) := by decide +kernel
theorem dX11_ahead_131 : decode cX11_ahead 131 = .ok (.bipush 58, 2) := by decide +kernel
theorem dX11_ahead_133 : decode cX11_ahead 133 = .ok (.iload_n 1, 1) := by decide +kernel
theorem dX11_ahead_134 : decode cX11_ahead 134 = .ok (.iadd, 1) := by decide +kernel
theorem dX11_ahead_135 : decode cX11_ahead 135 = .ok (.iaload, 1) := by decide +kernel
theorem dX11_ahead_136 : decode cX11_ahead 136 = .ok (.ireturn, 1) := by decide +kernel
theorem dX11_count_0 : decode cX11_count 0 = .ok (.iload_n 1, 1) := by decide +kernel
theorem dX11_count_1 : decode cX11_count 1 = .ok (.tableswitch 259 0 15 #[79, 92, 105, 118, 131, 144, 149, 157, 170, 184, 197, 210, 224, 235, 243, 251], 79) := by decide +kernel
theorem dX11_count_80 : decode cX11_count 80 = .ok (.aload_n 0, 1) := by decide +kernel
theorem dX11_count_81 : decode cX11_count 81 = .ok (.getfield 43, 3) := by decide +kernel
theorem dX11_count_84 : decode cX11_count 84 = .ok (.getfield 111, 3) := by decide +kernel
theorem dX11_count_87 : decode cX11_count 87 = .ok (.getfield 124, 3) := by decide +kernel
theorem dX11_count_90 : decode cX11_count 90 = .ok (.iconst 0, 1) := by decide +kernel
theorem dX11_count_91 : decode cX11_count 91 = .ok (.iaload, 1) := by decide +kernel
theorem dX11_count_92 : decode cX11_count 92 = .ok (.ireturn, 1) := by decide +kernel
theorem dX11_count_93 : decode cX11_count 93 = .ok (.aload_n 0, 1) := by decide +kernel
theorem dX11_count_94 : decode cX11_count 94 = .ok (.getfield 43, 3) := by decide +kernel
theorem dX11_count_97 : decode cX11_count 97 = .ok (.getfield 111, 3) := by decide +kernel
theorem dX11_count_100 : decode cX11_count 100 = .ok (.getfield 124, 3) := by decide +kernel
theorem dX11_count_103 : decode cX11_count 103 = .ok (.iconst 1, 1) := by decide +kernel
theorem dX11_count_104 : decode cX11_count 104 = .ok (.iaload, 1) := by decide +kernel
theorem dX11_count_105 : decode cX11_count 105 = .ok (.ireturn, 1) := by decide +kernel
theorem dX11_count_106 : decode cX11_count 106 = .ok (.aload_n 0, 1) := by decide +kernel
theorem dX11_count_107 : decode cX11_count 107 = .ok (.getfield 43, 3) := by decide +kernel
theorem dX11_count_110 : decode cX11_count 110 = .ok (.getfield 111, 3) := by decide +kernel
theorem dX11_count_113 : decode cX11_count 113 = .ok (.getfield 124, 3) := by decide +kernel
theorem dX11_count_116 : decode cX11_count 116 = .ok (.iconst 2, 1) := by decide +kernel
theorem dX11_count_117 : decode cX11_count 117 = .ok (.iaload, 1) := by decide +kernel
theorem dX11_count_118 : decode cX11_count 118 = .ok (.ireturn, 1) := by decide +kernel
theorem dX11_count_119 : decode cX11_count 119 = .ok (.aload_n 0, 1) := by decide +kernel
theorem dX11_count_120 : decode cX11_count 120 = .ok (.getfield 43, 3) := by decide +kernel
theorem dX11_count_123 : decode cX11_count 123 = .ok (.getfield 111, 3) := by decide +kernel
theorem dX11_count_126 : decode cX11_count 126 = .ok (.getfield 124, 3) := by decide +kernel
theorem dX11_count_129 : decode cX11_count 129 = .ok (.iconst 3, 1) := by decide +kernel
theorem dX11_count_130 : decode cX11_count 130 = .ok (.iaload, 1) := by decide +kernel
theorem dX11_count_131 : decode cX11_count 131 = .ok (.ireturn, 1) := by decide +kernel
theorem dX11_count_132 : decode cX11_count 132 = .ok (.aload_n 0, 1) := by decide +kernel
theorem dX11_count_133 : decode cX11_count 133 = .ok (.getfield 43, 3) := by decide +kernel
theorem dX11_count_136 : decode cX11_count 136 = .ok (.getfield 111, 3) := by decide +kernel
theorem dX11_count_139 : decode cX11_count 139 = .ok (.getfield 124, 3) := by decide +kernel
theorem dX11_count_142 : decode cX11_count 142 = .ok (.iconst 4, 1) := by decide +kernel
theorem dX11_count_143 : decode cX11_count 143 = .ok (.iaload, 1) := by decide +kernel
theorem dX11_count_144 : decode cX11_count 144 = .ok (.ireturn, 1) := by decide +kernel
theorem dX11_count_145 : decode cX11_count 145 = .ok (.aload_n 0, 1) := by decide +kernel
theorem dX11_count_146 : decode cX11_count 146 = .ok (.getfield 36, 3) := by decide +kernel
theorem dX11_count_149 : decode cX11_count 149 = .ok (.ireturn, 1) := by decide +kernel
theorem dX11_count_150 : decode cX11_count 150 = .ok (.aload_n 0, 1) := by decide +kernel
theorem dX11_count_151 : decode cX11_count 151 = .ok (.getfield 43, 3) := by decide +kernel
theorem dX11_count_154 : decode cX11_count 154 = .ok (.getfield 133, 3) := by decide +kernel
theorem dX11_count_157 : decode cX11_count 157 = .ok (.ireturn, 1) := by decide +kernel
theorem dX11_count_158 : decode cX11_count 158 = .ok (.aload_n 0, 1) := by decide +kernel
theorem dX11_count_159 : decode cX11_count 159 = .ok (.getfield 43, 3) := by decide +kernel
theorem dX11_count_162 : decode cX11_count 162 = .ok (.getfield 111, 3) := by decide +kernel
theorem dX11_count_165 : decode cX11_count 165 = .ok (.getfield 124, 3) := by decide +kernel
theorem dX11_count_168 : decode cX11_count 168 = .ok (.iconst 5, 1) := by decide +kernel
theorem dX11_count_169 : decode cX11_count 169 = .ok (.iaload, 1) := by decide +kernel
theorem dX11_count_170 : decode cX11_count 170 = .ok (.ireturn, 1) := by decide +kernel
theorem dX11_count_171 : decode cX11_count 171 = .ok (.aload_n 0, 1) := by decide +kernel
theorem dX11_count_172 : decode cX11_count 172 = .ok (.getfield 43, 3) := by decide +kernel
theorem dX11_count_175 : decode cX11_count 175 = .ok (.getfield 111, 3) := by decide +kernel
theorem dX11_count_178 : decode cX11_count 178 = .ok (.getfield 124, 3) := by decide +kernel
theorem dX11_count_181 : decode cX11_count 181 = .ok (.bipush 6, 2) := by decide +kernel
theorem dX11_count_183 : decode cX11_count 183 = .ok (.iaload, 1) := by decide +kernel
theorem dX11_count_184 : decode cX11_count 184 = .ok (.ireturn, 1) := by decide +kernel
theorem dX11_count_185 : decode cX11_count 185 = .ok (.aload_n 0, 1) := by decide +kernel
theorem dX11_count_186 : decode cX11_count 186 = .ok (.getfield 43, 3) := by decide +kernel
theorem dX11_count_189 : decode cX11_count 189 = .ok (.getfield 111, 3) := by decide +kernel
theorem dX11_count_192 : decode cX11_count 192 = .ok (.bipush 53, 2) := by decide +kernel
theorem dX11_count_194 : decode cX11_count 194 = .ok (.invokevirtual 146, 3) := by decide +kernel
theorem dX11_count_197 : decode cX11_count 197 = .ok (.ireturn, 1) := by decide +kernel
theorem dX11_count_198 : decode cX11_count 198 = .ok (.aload_n 0, 1) := by decide +kernel
theorem dX11_count_199 : decode cX11_count 199 = .ok (.getfield 43, 3) := by decide +kernel
theorem dX11_count_202 : decode cX11_count 202 = .ok (.getfield 111, 3) := by decide +kernel
theorem dX11_count_205 : decode cX11_count 205 = .ok (.bipush 58, 2) := by decide +kernel
theorem dX11_count_207 : decode cX11_count 207 = .ok (.invokevirtual 146, 3) := by decide +kernel
theorem dX11_count_210 : decode cX11_count 210 = .ok (.ireturn, 1) := by decide +kernel
theorem dX11_count_211 : decode cX11_count 211 = .ok (.aload_n 0, 1) := by decide +kernel
theorem dX11_count_212 : decode cX11_count 212 = .ok (.getfield 43, 3) := by decide +kernel
theorem dX11_count_215 : decode cX11_count 215 = .ok (.getfield 111, 3) := by decide +kernel
theorem dX11_count_218 : decode cX11_count 218 = .ok (.getfield 124, 3) := by decide +kernel
theorem dX11_count_221 : decode cX11_count 221 = .ok (.bipush 7, 2) := by decide +kernel
theorem dX11_count_223 : decode cX11_count 223 = .ok (.iaload, 1) := by decide +kernel
theorem dX11_count_224 : decode cX11_count 224 = .ok (.ireturn, 1) := by decide +kernel
theorem dX11_count_225 : decode cX11_count 225 = .ok (.aload_n 0, 1) := by decide +kernel
theorem dX11_count_226 : decode cX11_count 226 = .ok (.getfield 43, 3) := by decide +kernel
theorem dX11_count_229 : decode cX11_count 229 = .ok (.getfield 114, 3) := by decide +kernel
theorem dX11_count_232 : decode cX11_count 232 = .ok (.getfield 118, 3) := by decide +kernel
theorem dX11_count_235 : decode cX11_count 235 = .ok (.ireturn, 1) := by decide +kernel
theorem dX11_count_236 : decode cX11_count 236 = .ok (.aload_n 0, 1) := by decide +kernel
theorem dX11_count_237 : decode cX11_count 237 = .ok (.getfield 54, 3) := by decide +kernel
theorem dX11_count_240 : decode cX11_count 240 = .ok (.getfield 123, 3) := by decide +kernel
theorem dX11_count_243 : decode cX11_count 243 = .ok (.ireturn, 1) := by decide +kernel
theorem dX11_count_244 : decode cX11_count 244 = .ok (.aload_n 0, 1) := by decide +kernel
theorem dX11_count_245 : decode cX11_count 245 = .ok (.getfield 43, 3) := by decide +kernel
theorem dX11_count_248 : decode cX11_count 248 = .ok (.getfield 149, 3) := by decide +kernel
theorem dX11_count_251 : decode cX11_count 251 = .ok (.ireturn, 1) := by decide +kernel
theorem dX11_count_252 : decode cX11_count 252 = .ok (.aload_n 0, 1) := by decide +kernel
theorem dX11_count_253 : decode cX11_count 253 = .ok (.getfield 10, 3) := by decide +kernel
theorem dX11_count_256 : decode cX11_count 256 = .ok (.getfield 87, 3) := by decide +kernel
theorem dX11_count_259 : decode cX11_count 259 = .ok (.ireturn, 1) := by decide +kernel
theorem dX11_count_260 : decode cX11_count 260 = .ok (.iconst (-1), 1) := by decide +kernel
theorem dX11_count_261 : decode cX11_count 261 = .ok (.ireturn, 1) := by decide +kernel
theorem dX11_eased_0 : decode cX11_eased 0 = .ok (.aload_n 0, 1) := by decide +kernel
theorem dX11_eased_1 : decode cX11_eased 1 = .ok (.getfield 43, 3) := by decide +kernel
theorem dX11_eased_4 : decode cX11_eased 4 = .ok (.getfield 111, 3) := by decide +kernel
theorem dX11_eased_7 : decode cX11_eased 7 = .ok (.iload_n 1, 1) := by decide +kernel
theorem dX11_eased_8 : decode cX11_eased 8 = .ok (.invokevirtual 139, 3) := by decide +kernel
theorem dX11_eased_11 : decode cX11_eased 11 = .ok (.ifCond .ne 5, 3) := by decide +kernel
theorem dX11_eased_14 : decode cX11_eased 14 = .ok (.iconst (-1), 1) := by decide +kernel
theorem dX11_eased_15 : decode cX11_eased 15 = .ok (.ireturn, 1) := by decide +kernel
theorem dX11_eased_16 : decode cX11_eased 16 = .ok (.aload_n 0, 1) := by decide +kernel
theorem dX11_eased_17 : decode cX11_eased 17 = .ok (.getfield 61, 3) := by decide +kernel
theorem dX11_eased_20 : decode cX11_eased 20 = .ok (.aload_n 0, 1) := by decide +kernel
theorem dX11_eased_21 : decode cX11_eased 21 = .ok (.getfield 43, 3) := by decide +kernel
theorem dX11_eased_24 : decode cX11_eased 24 = .ok (.getfield 111, 3) := by decide +kernel
theorem dX11_eased_27 : decode cX11_eased 27 = .ok (.aload_n 0, 1) := by decide +kernel
theorem dX11_eased_28 : decode cX11_eased 28 = .ok (.invokevirtual 159, 3) := by decide +kernel
theorem dX11_eased_31 : decode cX11_eased 31 = .ok (.invokevirtual 162, 3) := by decide +kernel
theorem dX11_eased_34 : decode cX11_eased 34 = .ok (.aload_n 0, 1) := by decide +kernel
theorem dX11_eased_35 : decode cX11_eased 35 = .ok (.getfield 68, 3) := by decide +kernel
theorem dX11_eased_38 : decode cX11_eased 38 = .ok (.aload_n 0, 1) := by decide +kernel
theorem dX11_eased_39 : decode cX11_eased 39 = .ok (.getfield 61, 3) := by decide +kernel
theorem dX11_eased_42 : decode cX11_eased 42 = .ok (.iload_n 1, 1) := by decide +kernel
theorem dX11_eased_43 : decode cX11_eased 43 = .ok (.iload_n 1, 1) := by decide +kernel
theorem dX11_eased_44 : decode cX11_eased 44 = .ok (.invokevirtual 190, 3) := by decide +kernel
theorem dX11_eased_47 : decode cX11_eased 47 = .ok (.ireturn, 1) := by decide +kernel
theorem dX11_force_0 : decode cX11_force 0 = .ok (.iload_n 1, 1) := by decide +kernel
theorem dX11_force_1 : decode cX11_force 1 = .ok (.iconst (-1), 1) := by decide +kernel
theorem dX11_force_2 : decode cX11_force 2 = .ok (.aload_n 0, 1) := by decide +kernel
theorem dX11_force_3 : decode cX11_force 3 = .ok (.getfield 36, 3) := by decide +kernel
theorem dX11_force_6 : decode cX11_force 6 = .ok (.iconst 1, 1) := by decide +kernel
theorem dX11_force_7 : decode cX11_force 7 = .ok (.isub, 1) := by decide +kernel
theorem dX11_force_8 : decode cX11_force 8 = .ok (.invokestatic 90, 3) := by decide +kernel
theorem dX11_force_11 : decode cX11_force 11 = .ok (.ifCond .ne 6, 3) := by decide +kernel
theorem dX11_force_14 : decode cX11_force 14 = .ok (.bipush (-2), 2) := by decide +kernel
theorem dX11_force_16 : decode cX11_force 16 = .ok (.ireturn, 1) := by decide +kernel
theorem dX11_force_17 : decode cX11_force 17 = .ok (.aload_n 0, 1) := by decide +kernel
theorem dX11_force_18 : decode cX11_force 18 = .ok (.getfield 43, 3) := by decide +kernel
theorem dX11_force_21 : decode cX11_force 21 = .ok (.getfield 133, 3) := by decide +kernel
theorem dX11_force_24 : decode cX11_force 24 = .ok (.istore_n 2, 1) := by decide +kernel
theorem dX11_force_25 : decode cX11_force 25 = .ok (.aload_n 0, 1) := by decide +kernel
theorem dX11_force_26 : decode cX11_force 26 = .ok (.getfield 43, 3) := by decide +kernel
theorem dX11_force_29 : decode cX11_force 29 = .ok (.iload_n 1, 1) := by decide +kernel
theorem dX11_force_30 : decode cX11_force 30 = .ok (.putfield 133, 3) := by decide +kernel
theorem dX11_force_33 : decode cX11_force 33 = .ok (.iload_n 2, 1) := by decide +kernel
theorem dX11_force_34 : decode cX11_force 34 = .ok (.ireturn, 1) := by decide +kernel
theorem dX11_given_0 : decode cX11_given 0 = .ok (.aload_n 0, 1) := by decide +kernel
theorem dX11_given_1 : decode cX11_given 1 = .ok (.getfield 43, 3) := by decide +kernel
theorem dX11_given_4 : decode cX11_given 4 = .ok (.getfield 111, 3) := by decide +kernel
theorem dX11_given_7 : decode cX11_given 7 = .ok (.invokevirtual 152, 3) := by decide +kernel
theorem dX11_given_10 : decode cX11_given 10 = .ok (.ifCond .eq 22, 3) := by decide +kernel
theorem dX11_given_13 : decode cX11_given 13 = .ok (.iload_n 1, 1) := by decide +kernel
theorem dX11_given_14 : decode cX11_given 14 = .ok (.iconst 1, 1) := by decide +kernel
theorem dX11_given_15 : decode cX11_given 15 = .ok (.bipush 40, 2) := by decide +kernel
theorem dX11_given_17 : decode cX11_given 17 = .ok (.invokestatic 90, 3) := by decide +kernel
theorem dX11_given_20 : decode cX11_given 20 = .ok (.ifCond .eq 12, 3) := by decide +kernel
theorem dX11_given_23 : decode cX11_given 23 = .ok (.iload_n 2, 1) := by decide +kernel
theorem dX11_given_24 : decode cX11_given 24 = .ok (.iconst 0, 1) := by decide +kernel
theorem dX11_given_25 : decode cX11_given 25 = .ok (.iconst 1, 1) := by decide +kernel
theorem dX11_given_26 : decode cX11_given 26 = .ok (.invokestatic 90, 3) := by decide +kernel
theorem dX11_given_29 : decode cX11_given 29 = .ok (.ifCond .ne 6, 3) := by decide +kernel
theorem dX11_given_32 : decode cX11_given 32 = .ok (.bipush (-2), 2) := by decide +kernel
theorem dX11_given_34 : decode cX11_given 34 = .ok (.ireturn, 1) := by decide +kernel
theorem dX11_given_35 : decode cX11_given 35 = .ok (.aload_n 0, 1) := by decide +kernel
theorem dX11_given_36 : decode cX11_given 36 = .ok (.getfield 68, 3) := by decide +kernel
theorem dX11_given_39 : decode cX11_given 39 = .ok (.aload_n 0, 1) := by decide +kernel
theorem dX11_given_40 : decode cX11_given 40 = .ok (.getfield 61, 3) := by decide +kernel
theorem dX11_given_43 : decode cX11_given 43 = .ok (.aload_n 0, 1) := by decide +kernel
theorem dX11_given_44 : decode cX11_given 44 = .ok (.getfield 43, 3) := by decide +kernel
theorem dX11_given_47 : decode cX11_given 47 = .ok (.getfield 111, 3) := by decide +kernel
theorem dX11_given_50 : decode cX11_given 50 = .ok (.aload_n 0, 1) := by decide +kernel
theorem dX11_given_51 : decode cX11_given 51 = .ok (.invokevirtual 159, 3) := by decide +kernel
theorem dX11_given_54 : decode cX11_given 54 = .ok (.iload_n 1, 1) := by decide +kernel
theorem dX11_given_55 : decode cX11_given 55 = .ok (.invokevirtual 217, 3) := by decide +kernel
theorem dX11_given_58 : decode cX11_given 58 = .ok (.iload_n 2, 1) := by decide +kernel
theorem dX11_given_59 : decode cX11_given 59 = .ok (.ifCond .ne 13, 3) := by decide +kernel
theorem dX11_given_62 : decode cX11_given 62 = .ok (.aload_n 0, 1) := by decide +kernel
theorem dX11_given_63 : decode cX11_given 63 = .ok (.getfield 68, 3) := by decide +kernel
theorem dX11_given_66 : decode cX11_given 66 = .ok (.getfield 211, 3) := by decide +kernel
theorem dX11_given_69 : decode cX11_given 69 = .ok (.goto 10, 3) := by decide +kernel
theorem dX11_given_72 : decode cX11_given 72 = .ok (.aload_n 0, 1) := by decide +kernel
theorem dX11_given_73 : decode cX11_given 73 = .ok (.getfield 68, 3) := by decide +kernel
theorem dX11_given_76 : decode cX11_given 76 = .ok (.getfield 214, 3) := by decide +kernel
theorem dX11_given_79 : decode cX11_given 79 = .ok (.ireturn, 1) := by decide +kernel
theorem dX11_green_0 : decode cX11_green 0 = .ok (.aload_n 0, 1) := by decide +kernel
theorem dX11_green_1 : decode cX11_green 1 = .ok (.getfield 19, 3) := by decide +kernel
theorem dX11_green_4 : decode cX11_green 4 = .ok (.aload_n 0, 1) := by decide +kernel
theorem dX11_green_5 : decode cX11_green 5 = .ok (.getfield 10, 3) := by decide +kernel
theorem dX11_green_8 : decode cX11_green 8 = .ok (.invokevirtual 94, 3) := by decide +kernel
theorem dX11_green_11 : decode cX11_green 11 = .ok (.istore_n 1, 1) := by decide +kernel
theorem dX11_green_12 : decode cX11_green 12 = .ok (.iload_n 1, 1) := by decide +kernel
theorem dX11_green_13 : decode cX11_green 13 = .ok (.ifCond .eq 8, 3) := by decide +kernel
theorem dX11_green_16 : decode cX11_green 16 = .ok (.bipush (-2), 2) := by decide +kernel
theorem dX11_green_18 : decode cX11_green 18 = .ok (.iload_n 1, 1) := by decide +kernel
theorem dX11_green_19 : decode cX11_green 19 = .ok (.isub, 1) := by decide +kernel
theorem dX11_green_20 : decode cX11_green 20 = .ok (.ireturn, 1) := by decide +kernel
theorem dX11_green_21 : decode cX11_green 21 = .ok (.aload_n 0, 1) := by decide +kernel
theorem dX11_green_22 : decode cX11_green 22 = .ok (.getfield 43, 3) := by decide +kernel
theorem dX11_green_25 : decode cX11_green 25 = .ok (.getfield 98, 3) := by decide +kernel
theorem dX11_green_28 : decode cX11_green 28 = .ok (.aload_n 0, 1) := by decide +kernel
theorem dX11_green_29 : decode cX11_green 29 = .ok (.getfield 19, 3) := by decide +kernel
theorem dX11_green_32 : decode cX11_green 32 = .ok (.getfield 102, 3) := by decide +kernel
theorem dX11_green_35 : decode cX11_green 35 = .ok (.invokevirtual 105, 3) := by decide +kernel
theorem dX11_green_38 : decode cX11_green 38 = .ok (.aload_n 0, 1) := by decide +kernel
theorem dX11_green_39 : decode cX11_green 39 = .ok (.getfield 43, 3) := by decide +kernel
theorem dX11_green_42 : decode cX11_green 42 = .ok (.getfield 111, 3) := by decide +kernel
theorem dX11_green_45 : decode cX11_green 45 = .ok (.aload_n 0, 1) := by decide +kernel
theorem dX11_green_46 : decode cX11_green 46 = .ok (.getfield 19, 3) := by decide +kernel
theorem dX11_green_49 : decode cX11_green 49 = .ok (.getfield 102, 3) := by decide +kernel
theorem dX11_green_52 : decode cX11_green 52 = .ok (.invokevirtual 105, 3) := by decide +kernel
theorem dX11_green_55 : decode cX11_green 55 = .ok (.aload_n 0, 1) := by decide +kernel
theorem dX11_green_56 : decode cX11_green 56 = .ok (.getfield 43, 3) := by decide +kernel
theorem dX11_green_59 : decode cX11_green 59 = .ok (.getfield 114, 3) := by decide +kernel
theorem dX11_green_62 : decode cX11_green 62 = .ok (.iconst 0, 1) := by decide +kernel
theorem dX11_green_63 : decode cX11_green 63 = .ok (.putfield 118, 3) := by decide +kernel
theorem dX11_green_66 : decode cX11_green 66 = .ok (.aload_n 0, 1) := by decide +kernel
theorem dX11_green_67 : decode cX11_green 67 = .ok (.getfield 54, 3) := by decide +kernel
theorem dX11_green_70 : decode cX11_green 70 = .ok (.iconst 0, 1) := by decide +kernel
theorem dX11_green_71 : decode cX11_green 71 = .ok (.putfield 123, 3) := by decide +kernel
theorem dX11_green_74 : decode cX11_green 74 = .ok (.aload_n 0, 1) := by decide +kernel
theorem dX11_green_75 : decode cX11_green 75 = .ok (.getfield 10, 3) := by decide +kernel
theorem dX11_green_78 : decode cX11_green 78 = .ok (.iconst 0, 1) := by decide +kernel
theorem dX11_green_79 : decode cX11_green 79 = .ok (.putfield 87, 3) := by decide +kernel
theorem dX11_green_82 : decode cX11_green 82 = .ok (.aload_n 0, 1) := by decide +kernel
theorem dX11_green_83 : decode cX11_green 83 = .ok (.getfield 43, 3) := by decide +kernel
theorem dX11_green_86 : decode cX11_green 86 = .ok (.getfield 111, 3) := by decide +kernel
theorem dX11_green_89 : decode cX11_green 89 = .ok (.getfield 124, 3) := by decide +kernel
theorem dX11_green_92 : decode cX11_green 92 = .ok (.iconst 4, 1) := by decide +kernel
theorem dX11_green_93 : decode cX11_green 93 = .ok (.iaload, 1) := by decide +kernel
theorem dX11_green_94 : decode cX11_green 94 = .ok (.ireturn, 1) := by decide +kernel
theorem dX11_gusts_0 : decode cX11_gusts 0 = .ok (.aload_n 0, 1) := by decide +kernel
theorem dX11_gusts_1 : decode cX11_gusts 1 = .ok (.getfield 43, 3) := by decide +kernel
theorem dX11_gusts_4 : decode cX11_gusts 4 = .ok (.getfield 111, 3) := by decide +kernel
theorem dX11_gusts_7 : decode cX11_gusts 7 = .ok (.invokevirtual 152, 3) := by decide +kernel
theorem dX11_gusts_10 : decode cX11_gusts 10 = .ok (.ifCond .eq 23, 3) := by decide +kernel
theorem dX11_gusts_13 : decode cX11_gusts 13 = .ok (.iload_n 1, 1) := by decide +kernel
theorem dX11_gusts_14 : decode cX11_gusts 14 = .ok (.iconst 1, 1) := by decide +kernel
theorem dX11_gusts_15 : decode cX11_gusts 15 = .ok (.bipush 10, 2) := by decide +kernel
theorem dX11_gusts_17 : decode cX11_gusts 17 = .ok (.invokestatic 90, 3) := by decide +kernel
theorem dX11_gusts_20 : decode cX11_gusts 20 = .ok (.ifCond .eq 13, 3) := by decide +kernel
theorem dX11_gusts_23 : decode cX11_gusts 23 = .ok (.iload_n 2, 1) := by decide +kernel
theorem dX11_gusts_24 : decode cX11_gusts 24 = .ok (.iconst 1, 1) := by decide +kernel
theorem dX11_gusts_25 : decode cX11_gusts 25 = .ok (.bipush 40, 2) := by decide +kernel
theorem dX11_gusts_27 : decode cX11_gusts 27 = .ok (.invokestatic 90, 3) := by decide +kernel
theorem dX11_gusts_30 : decode cX11_gusts 30 = .ok (.ifCond .ne 5, 3) := by decide +kernel
theorem dX11_gusts_33 : decode cX11_gusts 33 = .ok (.iconst (-1), 1) := by decide +kernel
theorem dX11_gusts_34 : decode cX11_gusts 34 = .ok (.ireturn, 1) := by decide +kernel
theorem dX11_gusts_35 : decode cX11_gusts 35 = .ok (.iload_n 3, 1) := by decide +kernel
theorem dX11_gusts_36 : decode cX11_gusts 36 = .ok (.iconst 0, 1) := by decide +kernel
theorem dX11_gusts_37 : decode cX11_gusts 37 = .ok (.bipush 100, 2) := by decide +kernel
theorem dX11_gusts_39 : decode cX11_gusts 39 = .ok (.invokestatic 90, 3) := by decide +kernel
theorem dX11_gusts_42 : decode cX11_gusts 42 = .ok (.ifCond .eq 13, 3) := by decide +kernel
theorem dX11_gusts_45 : decode cX11_gusts 45 = .ok (.iload 4, 2) := by decide +kernel
theorem dX11_gusts_47 : decode cX11_gusts 47 = .ok (.iconst 0, 1) := by decide +kernel
theorem dX11_gusts_48 : decode cX11_gusts 48 = .ok (.iconst 1, 1) := by decide +kernel
theorem dX11_gusts_49 : decode cX11_gusts 49 = .ok (.invokestatic 90, 3) := by decide +kernel
theorem dX11_gusts_52 : decode cX11_gusts 52 = .ok (.ifCond .ne 5, 3) := by decide +kernel
theorem dX11_gusts_55 : decode cX11_gusts 55 = .ok (.iconst (-1), 1) := by decide +kernel
theorem dX11_gusts_56 : decode cX11_gusts 56 = .ok (.ireturn, 1) := by decide +kernel
theorem dX11_gusts_57 : decode cX11_gusts 57 = .ok (.aload_n 0, 1) := by decide +kernel
theorem dX11_gusts_58 : decode cX11_gusts 58 = .ok (.getfield 68, 3) := by decide +kernel
theorem dX11_gusts_61 : decode cX11_gusts 61 = .ok (.aload_n 0, 1) := by decide +kernel
theorem dX11_gusts_62 : decode cX11_gusts 62 = .ok (.getfield 43, 3) := by decide +kernel
theorem dX11_gusts_65 : decode cX11_gusts 65 = .ok (.getfield 149, 3) := by decide +kernel
theorem dX11_gusts_68 : decode cX11_gusts 68 = .ok (.putfield 259, 3) := by decide +kernel
theorem dX11_gusts_71 : decode cX11_gusts 71 = .ok (.iconst 0, 1) := by decide +kernel
theorem dX11_gusts_72 : decode cX11_gusts 72 = .ok (.istore 5, 2) := by decide +kernel
theorem dX11_gusts_74 : decode cX11_gusts 74 = .ok (.iconst 0, 1) := by decide +kernel
theorem dX11_gusts_75 : decode cX11_gusts 75 = .ok (.istore 6, 2) := by decide +kernel
theorem dX11_gusts_77 : decode cX11_gusts 77 = .ok (.iconst 0, 1) := by decide +kernel
theorem dX11_gusts_78 : decode cX11_gusts 78 = .ok (.istore 7, 2) := by decide +kernel
theorem dX11_gusts_80 : decode cX11_gusts 80 = .ok (.iload 7, 2) := by decide +kernel
theorem dX11_gusts_82 : decode cX11_gusts 82 = .ok (.iload_n 1, 1) := by decide +kernel
theorem dX11_gusts_83 : decode cX11_gusts 83 = .ok (.if_icmp .ge 84, 3) := by decide +kernel
theorem dX11_gusts_86 : decode cX11_gusts 86 = .ok (.aload_n 0, 1) := by decide +kernel
theorem dX11_gusts_87 : decode cX11_gusts 87 = .ok (.getfield 61, 3) := by decide +kernel
theorem dX11_gusts_90 : decode cX11_gusts 90 = .ok (.aload_n 0, 1) := by decide +kernel
theorem dX11_gusts_91 : decode cX11_gusts 91 = .ok (.getfield 43, 3) := by decide +kernel
theorem dX11_gusts_94 : decode cX11_gusts 94 = .ok (.getfield 111, 3) := by decide +kernel
theorem dX11_gusts_97 : decode cX11_gusts 97 = .ok (.aload_n 0, 1) := by decide +kernel
theorem dX11_gusts_98 : decode cX11_gusts 98 = .ok (.invokevirtual 159, 3) := by decide +kernel
theorem dX11_gusts_101 : decode cX11_gusts 101 = .ok (.invokevirtual 162, 3) := by decide +kernel
theorem dX11_gusts_104 : decode cX11_gusts 104 = .ok (.aload_n 0, 1) := by decide +kernel
theorem dX11_gusts_105 : decode cX11_gusts 105 = .ok (.getfield 68, 3) := by decide +kernel
theorem dX11_gusts_108 : decode cX11_gusts 108 = .ok (.aload_n 0, 1) := by decide +kernel
theorem dX11_gusts_109 : decode cX11_gusts 109 = .ok (.getfield 61, 3) := by decide +kernel
theorem dX11_gusts_112 : decode cX11_gusts 112 = .ok (.iload_n 2, 1) := by decide +kernel
theorem dX11_gusts_113 : decode cX11_gusts 113 = .ok (.iload_n 3, 1) := by decide +kernel
theorem dX11_gusts_114 : decode cX11_gusts 114 = .ok (.invokevirtual 262, 3) := by decide +kernel
theorem dX11_gusts_117 : decode cX11_gusts 117 = .ok (.iload 5, 2) := by decide +kernel
theorem dX11_gusts_119 : decode cX11_gusts 119 = .ok (.aload_n 0, 1) := by decide +kernel
theorem dX11_gusts_120 : decode cX11_gusts 120 = .ok (.getfield 68, 3) := by decide +kernel
theorem dX11_gusts_123 : decode cX11_gusts 123 = .ok (.aload_n 0, 1) := by decide +kernel
theorem dX11_gusts_124 : decode cX11_gusts 124 = .ok (.getfield 43, 3) := by decide +kernel
theorem dX11_gusts_127 : decode cX11_gusts 127 = .ok (.getfield 111, 3) := by decide +kernel
theorem dX11_gusts_130 : decode cX11_gusts 130 = .ok (.aload_n 0, 1) := by decide +kernel
theorem dX11_gusts_131 : decode cX11_gusts 131 = .ok (.getfield 61, 3) := by decide +kernel
theorem dX11_gusts_134 : decode cX11_gusts 134 = .ok (.getfield 170, 3) := by decide +kernel
theorem dX11_gusts_137 : decode cX11_gusts 137 = .ok (.invokevirtual 266, 3) := by decide +kernel
theorem dX11_gusts_140 : decode cX11_gusts 140 = .ok (.iadd, 1) := by decide +kernel
theorem dX11_gusts_141 : decode cX11_gusts 141 = .ok (.istore 5, 2) := by decide +kernel
theorem dX11_gusts_143 : decode cX11_gusts 143 = .ok (.iload 6, 2) := by decide +kernel
theorem dX11_gusts_145 : decode cX11_gusts 145 = .ok (.aload_n 0, 1) := by decide +kernel
theorem dX11_gusts_146 : decode cX11_gusts 146 = .ok (.getfield 61, 3) := by decide +kernel
theorem dX11_gusts_149 : decode cX11_gusts 149 = .ok (.getfield 170, 3) := by decide +kernel
theorem dX11_gusts_152 : decode cX11_gusts 152 = .ok (.getfield 124, 3) := by decide +kernel
theorem dX11_gusts_155 : decode cX11_gusts 155 = .ok (.bipush 7, 2) := by decide +kernel
theorem dX11_gusts_157 : decode cX11_gusts 157 = .ok (.iaload, 1) := by decide +kernel
theorem dX11_gusts_158 : decode cX11_gusts 158 = .ok (.iadd, 1) := by decide +kernel
theorem dX11_gusts_159 : decode cX11_gusts 159 = .ok (.istore 6, 2) := by decide +kernel
theorem dX11_gusts_161 : decode cX11_gusts 161 = .ok (.iinc 7 1, 3) := by decide +kernel
theorem dX11_gusts_164 : decode cX11_gusts 164 = .ok (.goto (-84), 3) := by decide +kernel
theorem dX11_gusts_167 : decode cX11_gusts 167 = .ok (.iload 4, 2) := by decide +kernel
theorem dX11_gusts_169 : decode cX11_gusts 169 = .ok (.ifCond .ne 8, 3) := by decide +kernel
theorem dX11_gusts_172 : decode cX11_gusts 172 = .ok (.iload 5, 2) := by decide +kernel
theorem dX11_gusts_174 : decode cX11_gusts 174 = .ok (.goto 5, 3) := by decide +kernel
theorem dX11_gusts_177 : decode cX11_gusts 177 = .ok (.iload 6, 2) := by decide +kernel
theorem dX11_gusts_179 : decode cX11_gusts 179 = .ok (.ireturn, 1) := by decide +kernel
theorem dX11_image_0 : decode cX11_image 0 = .ok (.iload_n 1, 1) := by decide +kernel
theorem dX11_image_1 : decode cX11_image 1 = .ok (.iconst 0, 1) := by decide +kernel
theorem dX11_image_2 : decode cX11_image 2 = .ok (.iconst 3, 1) := by decide +kernel
theorem dX11_image_3 : decode cX11_image 3 = .ok (.invokestatic 90, 3) := by decide +kernel
theorem dX11_image_6 : decode cX11_image 6 = .ok (.ifCond .ne 5, 3) := by decide +kernel
theorem dX11_image_9 : decode cX11_image 9 = .ok (.iconst (-1), 1) := by decide +kernel
theorem dX11_image_10 : decode cX11_image 10 = .ok (.ireturn, 1) := by decide +kernel
theorem dX11_image_11 : decode cX11_image 11 = .ok (.aload_n 0, 1) := by decide +kernel
theorem dX11_image_12 : decode cX11_image 12 = .ok (.getfield 47, 3) := by decide +kernel
theorem dX11_image_15 : decode cX11_image 15 = .ok (.iload_n 1, 1) := by decide +kernel
theorem dX11_image_16 : decode cX11_image 16 = .ok (.aaload, 1) := by decide +kernel
theorem dX11_image_17 : decode cX11_image 17 = .ok (.aload_n 0, 1) := by decide +kernel
theorem dX11_image_18 : decode cX11_image 18 = .ok (.getfield 43, 3) := by decide +kernel
theorem dX11_image_21 : decode cX11_image 21 = .ok (.invokevirtual 270, 3) := by decide +kernel
theorem dX11_image_24 : decode cX11_image 24 = .ok (.aload_n 0, 1) := by decide +kernel
theorem dX11_image_25 : decode cX11_image 25 = .ok (.getfield 47, 3) := by decide +kernel
theorem dX11_image_28 : decode cX11_image 28 = .ok (.iload_n 1, 1) := by decide +kernel
theorem dX11_image_29 : decode cX11_image 29 = .ok (.aaload, 1) := by decide +kernel
theorem dX11_image_30 : decode cX11_image 30 = .ok (.iconst 1, 1) := by decide +kernel
theorem dX11_image_31 : decode cX11_image 31 = .ok (.putfield 273, 3) := by decide +kernel
theorem dX11_image_34 : decode cX11_image 34 = .ok (.aload_n 0, 1) := by decide +kernel
theorem dX11_image_35 : decode cX11_image 35 = .ok (.getfield 43, 3) := by decide +kernel
theorem dX11_image_38 : decode cX11_image 38 = .ok (.getfield 111, 3) := by decide +kernel
theorem dX11_image_41 : decode cX11_image 41 = .ok (.getfield 124, 3) := by decide +kernel
theorem dX11_image_44 : decode cX11_image 44 = .ok (.iconst 5, 1) := by decide +kernel
theorem dX11_image_45 : decode cX11_image 45 = .ok (.iaload, 1) := by decide +kernel
theorem dX11_image_46 : decode cX11_image 46 = .ok (.ireturn, 1) := by decide +kernel
theorem dX11_pence_0 : decode cX11_pence 0 = .ok (.iload_n 1, 1) := by decide +kernel
theorem dX11_pence_1 : decode cX11_pence 1 = .ok (.iconst 0, 1) := by decide +kernel
theorem dX11_pence_2 : decode cX11_pence 2 = .ok (.sipush 9999, 3) := by decide +kernel
theorem dX11_pence_5 : decode cX11_pence 5 = .ok (.invokestatic 90, 3) := by decide +kernel
theorem dX11_pence_8 : decode cX11_pence 8 = .ok (.ifCond .eq 17, 3) := by decide +kernel
theorem dX11_pence_11 : decode cX11_pence 11 = .ok (.aload_n 0, 1) := by decide +kernel
theorem dX11_pence_12 : decode cX11_pence 12 = .ok (.getfield 43, 3) := by decide +kernel
theorem dX11_pence_15 : decode cX11_pence 15 = .ok (.getfield 111, 3) := by decide +kernel
theorem dX11_pence_18 : decode cX11_pence 18 = .ok (.iload_n 2, 1) := by decide +kernel
theorem dX11_pence_19 : decode cX11_pence 19 = .ok (.invokevirtual 136, 3) := by decide +kernel
theorem dX11_pence_22 : decode cX11_pence 22 = .ok (.ifCond .ne 5, 3) := by decide +kernel
theorem dX11_pence_25 : decode cX11_pence 25 = .ok (.iconst (-1), 1) := by decide +kernel
theorem dX11_pence_26 : decode cX11_pence 26 = .ok (.ireturn, 1) := by decide +kernel
theorem dX11_pence_27 : decode cX11_pence 27 = .ok (.aload_n 0, 1) := by decide +kernel
theorem dX11_pence_28 : decode cX11_pence 28 = .ok (.getfield 68, 3) := by decide +kernel
theorem dX11_pence_31 : decode cX11_pence 31 = .ok (.aload_n 0, 1) := by decide +kernel
theorem dX11_pence_32 : decode cX11_pence 32 = .ok (.getfield 43, 3) := by decide +kernel
theorem dX11_pence_35 : decode cX11_pence 35 = .ok (.getfield 111, 3) := by decide +kernel
theorem dX11_pence_38 : decode cX11_pence 38 = .ok (.iload_n 1, 1) := by decide +kernel
theorem dX11_pence_39 : decode cX11_pence 39 = .ok (.iload_n 2, 1) := by decide +kernel
theorem dX11_pence_40 : decode cX11_pence 40 = .ok (.invokevirtual 228, 3) := by decide +kernel
theorem dX11_pence_43 : decode cX11_pence 43 = .ok (.ireturn, 1) := by decide +kernel
theorem dX11_rests_0 : decode cX11_rests 0 = .ok (.aload_n 0, 1) := by decide +kernel
theorem dX11_rests_1 : decode cX11_rests 1 = .ok (.getfield 43, 3) := by decide +kernel
theorem dX11_rests_4 : decode cX11_rests 4 = .ok (.getfield 111, 3) := by decide +kernel
theorem dX11_rests_7 : decode cX11_rests 7 = .ok (.iload_n 1, 1) := by decide +kernel
theorem dX11_rests_8 : decode cX11_rests 8 = .ok (.invokevirtual 139, 3) := by decide +kernel
theorem dX11_rests_11 : decode cX11_rests 11 = .ok (.ifCond .eq 22, 3) := by decide +kernel
theorem dX11_rests_14 : decode cX11_rests 14 = .ok (.aload_n 0, 1) := by decide +kernel
theorem dX11_rests_15 : decode cX11_rests 15 = .ok (.getfield 43, 3) := by decide +kernel
theorem dX11_rests_18 : decode cX11_rests 18 = .ok (.getfield 111, 3) := by decide +kernel
theorem dX11_rests_21 : decode cX11_rests 21 = .ok (.iload_n 2, 1) := by decide +kernel
theorem dX11_rests_22 : decode cX11_rests 22 = .ok (.invokevirtual 139, 3) := by decide +kernel
theorem dX11_rests_25 : decode cX11_rests 25 = .ok (.ifCond .eq 8, 3) := by decide +kernel
theorem dX11_rests_28 : decode cX11_rests 28 = .ok (.iload_n 1, 1) := by decide +kernel
theorem dX11_rests_29 : decode cX11_rests 29 = .ok (.iload_n 2, 1) := by decide +kernel
theorem dX11_rests_30 : decode cX11_rests 30 = .ok (.if_icmp .ne 5, 3) := by decide +kernel
theorem dX11_rests_33 : decode cX11_rests 33 = .ok (.iconst (-1), 1) := by decide +kernel
theorem dX11_rests_34 : decode cX11_rests 34 = .ok (.ireturn, 1) := by decide +kernel
theorem dX11_rests_35 : decode cX11_rests 35 = .ok (.iload_n 3, 1) := by decide +kernel
theorem dX11_rests_36 : decode cX11_rests 36 = .ok (.iconst 1, 1) := by decide +kernel
theorem dX11_rests_37 : decode cX11_rests 37 = .ok (.bipush 20, 2) := by decide +kernel
theorem dX11_rests_39 : decode cX11_rests 39 = .ok (.invokestatic 90, 3) := by decide +kernel
theorem dX11_rests_42 : decode cX11_rests 42 = .ok (.ifCond .eq 13, 3) := by decide +kernel
theorem dX11_rests_45 : decode cX11_rests 45 = .ok (.iload 4, 2) := by decide +kernel
theorem dX11_rests_47 : decode cX11_rests 47 = .ok (.iconst 0, 1) := by decide +kernel
theorem dX11_rests_48 : decode cX11_rests 48 = .ok (.iconst 2, 1) := by decide +kernel
theorem dX11_rests_49 : decode cX11_rests 49 = .ok (.invokestatic 90, 3) := by decide +kernel
theorem dX11_rests_52 : decode cX11_rests 52 = .ok (.ifCond .ne 5, 3) := by decide +kernel
theorem dX11_rests_55 : decode cX11_rests 55 = .ok (.iconst (-1), 1) := by decide +kernel
theorem dX11_rests_56 : decode cX11_rests 56 = .ok (.ireturn, 1) := by decide +kernel
theorem dX11_rests_57 : decode cX11_rests 57 = .ok (.aload_n 0, 1) := by decide +kernel
theorem dX11_rests_58 : decode cX11_rests 58 = .ok (.getfield 68, 3) := by decide +kernel
theorem dX11_rests_61 : decode cX11_rests 61 = .ok (.aload_n 0, 1) := by decide +kernel
theorem dX11_rests_62 : decode cX11_rests 62 = .ok (.getfield 61, 3) := by decide +kernel
theorem dX11_rests_65 : decode cX11_rests 65 = .ok (.aload_n 0, 1) := by decide +kernel
theorem dX11_rests_66 : decode cX11_rests 66 = .ok (.getfield 43, 3) := by decide +kernel
theorem dX11_rests_69 : decode cX11_rests 69 = .ok (.getfield 111, 3) := by decide +kernel
theorem dX11_rests_72 : decode cX11_rests 72 = .ok (.aload_n 0, 1) := by decide +kernel
theorem dX11_rests_73 : decode cX11_rests 73 = .ok (.invokevirtual 159, 3) := by decide +kernel
theorem dX11_rests_76 : decode cX11_rests 76 = .ok (.iload_n 1, 1) := by decide +kernel
theorem dX11_rests_77 : decode cX11_rests 77 = .ok (.iload_n 2, 1) := by decide +kernel
theorem dX11_rests_78 : decode cX11_rests 78 = .ok (.iload_n 3, 1) := by decide +kernel
theorem dX11_rests_79 : decode cX11_rests 79 = .ok (.invokevirtual 221, 3) := by decide +kernel
theorem dX11_rests_82 : decode cX11_rests 82 = .ok (.aload_n 0, 1) := by decide +kernel
theorem dX11_rests_83 : decode cX11_rests 83 = .ok (.getfield 68, 3) := by decide +kernel
theorem dX11_rests_86 : decode cX11_rests 86 = .ok (.aload_n 0, 1) := by decide +kernel
theorem dX11_rests_87 : decode cX11_rests 87 = .ok (.getfield 43, 3) := by decide +kernel
theorem dX11_rests_90 : decode cX11_rests 90 = .ok (.getfield 111, 3) := by decide +kernel
theorem dX11_rests_93 : decode cX11_rests 93 = .ok (.getfield 124, 3) := by decide +kernel
theorem dX11_rests_96 : decode cX11_rests 96 = .ok (.iconst 3, 1) := by decide +kernel
theorem dX11_rests_97 : decode cX11_rests 97 = .ok (.iaload, 1) := by decide +kernel
theorem dX11_rests_98 : decode cX11_rests 98 = .ok (.iload 4, 2) := by decide +kernel
theorem dX11_rests_100 : decode cX11_rests 100 = .ok (.invokevirtual 225, 3) := by decide +kernel
theorem dX11_rests_103 : decode cX11_rests 103 = .ok (.ireturn, 1) := by decide +kernel
theorem dX11_round_0 : decode cX11_round 0 = .ok (.aload_n 0, 1) := by decide +kernel
theorem dX11_round_1 : decode cX11_round 1 = .ok (.getfield 43, 3) := by decide +kernel
theorem dX11_round_4 : decode cX11_round 4 = .ok (.getfield 111, 3) := by decide +kernel
theorem dX11_round_7 : decode cX11_round 7 = .ok (.invokevirtual 152, 3) := by decide +kernel
theorem dX11_round_10 : decode cX11_round 10 = .ok (.ifCond .eq 21, 3) := by decide +kernel
theorem dX11_round_13 : decode cX11_round 13 = .ok (.aload_n 0, 1) := by decide +kernel
theorem dX11_round_14 : decode cX11_round 14 = .ok (.getfield 43, 3) := by decide +kernel
theorem dX11_round_17 : decode cX11_round 17 = .ok (.getfield 111, 3) := by decide +kernel
theorem dX11_round_20 : decode cX11_round 20 = .ok (.getfield 124, 3) := by decide +kernel
theorem dX11_round_23 : decode cX11_round 23 = .ok (.iconst 5, 1) := by decide +kernel
theorem dX11_round_24 : decode cX11_round 24 = .ok (.iaload, 1) := by decide +kernel
theorem dX11_round_25 : decode cX11_round 25 = .ok (.sipush 999, 3) := by decide +kernel
theorem dX11_round_28 : decode cX11_round 28 = .ok (.if_icmp .lt 5, 3) := by decide +kernel
theorem dX11_round_31 : decode cX11_round 31 = .ok (.iconst (-1), 1) := by decide +kernel
theorem dX11_round_32 : decode cX11_round 32 = .ok (.ireturn, 1) := by decide +kernel
theorem dX11_round_33 : decode cX11_round 33 = .ok (.aload_n 0, 1) := by decide +kernel
theorem dX11_round_34 : decode cX11_round 34 = .ok (.getfield 54, 3) := by decide +kernel
theorem dX11_round_37 : decode cX11_round 37 = .ok (.aload_n 0, 1) := by decide +kernel
theorem dX11_round_38 : decode cX11_round 38 = .ok (.getfield 43, 3) := by decide +kernel
theorem dX11_round_41 : decode cX11_round 41 = .ok (.getfield 111, 3) := by decide +kernel
theorem dX11_round_44 : decode cX11_round 44 = .ok (.invokevirtual 156, 3) := by decide +kernel
theorem dX11_round_47 : decode cX11_round 47 = .ok (.aload_n 0, 1) := by decide +kernel
theorem dX11_round_48 : decode cX11_round 48 = .ok (.getfield 61, 3) := by decide +kernel
theorem dX11_round_51 : decode cX11_round 51 = .ok (.aload_n 0, 1) := by decide +kernel
theorem dX11_round_52 : decode cX11_round 52 = .ok (.getfield 43, 3) := by decide +kernel
theorem dX11_round_55 : decode cX11_round 55 = .ok (.getfield 111, 3) := by decide +kernel
theorem dX11_round_58 : decode cX11_round 58 = .ok (.aload_n 0, 1) := by decide +kernel
theorem dX11_round_59 : decode cX11_round 59 = .ok (.invokevirtual 159, 3) := by decide +kernel
theorem dX11_round_62 : decode cX11_round 62 = .ok (.invokevirtual 162, 3) := by decide +kernel
theorem dX11_round_65 : decode cX11_round 65 = .ok (.aload_n 0, 1) := by decide +kernel
theorem dX11_round_66 : decode cX11_round 66 = .ok (.getfield 61, 3) := by decide +kernel
theorem dX11_round_69 : decode cX11_round 69 = .ok (.invokevirtual 166, 3) := by decide +kernel
theorem dX11_round_72 : decode cX11_round 72 = .ok (.istore_n 1, 1) := by decide +kernel
theorem dX11_round_73 : decode cX11_round 73 = .ok (.aload_n 0, 1) := by decide +kernel
theorem dX11_round_74 : decode cX11_round 74 = .ok (.getfield 43, 3) := by decide +kernel
theorem dX11_round_77 : decode cX11_round 77 = .ok (.getfield 111, 3) := by decide +kernel
theorem dX11_round_80 : decode cX11_round 80 = .ok (.aload_n 0, 1) := by decide +kernel
theorem dX11_round_81 : decode cX11_round 81 = .ok (.getfield 61, 3) := by decide +kernel
theorem dX11_round_84 : decode cX11_round 84 = .ok (.getfield 170, 3) := by decide +kernel
theorem dX11_round_87 : decode cX11_round 87 = .ok (.invokevirtual 105, 3) := by decide +kernel
theorem dX11_round_90 : decode cX11_round 90 = .ok (.iload_n 1, 1) := by decide +kernel
theorem dX11_round_91 : decode cX11_round 91 = .ok (.ireturn, 1) := by decide +kernel
theorem dX11_ruled_0 : decode cX11_ruled 0 = .ok (.aload_n 0, 1) := by decide +kernel
theorem dX11_ruled_1 : decode cX11_ruled 1 = .ok (.getfield 43, 3) := by decide +kernel
theorem dX11_ruled_4 : decode cX11_ruled 4 = .ok (.getfield 111, 3) := by decide +kernel
theorem dX11_ruled_7 : decode cX11_ruled 7 = .ok (.invokevirtual 152, 3) := by decide +kernel
theorem dX11_ruled_10 : decode cX11_ruled 10 = .ok (.ifCond .eq 12, 3) := by decide +kernel
theorem dX11_ruled_13 : decode cX11_ruled 13 = .ok (.iload_n 1, 1) := by decide +kernel
theorem dX11_ruled_14 : decode cX11_ruled 14 = .ok (.iconst 0, 1) := by decide +kernel
theorem dX11_ruled_15 : decode cX11_ruled 15 = .ok (.iconst 1, 1) := by decide +kernel
theorem dX11_ruled_16 : decode cX11_ruled 16 = .ok (.invokestatic 90, 3) := by decide +kernel
theorem dX11_ruled_19 : decode cX11_ruled 19 = .ok (.ifCond .ne 6, 3) := by decide +kernel
theorem dX11_ruled_22 : decode cX11_ruled 22 = .ok (.bipush (-3), 2) := by decide +kernel
theorem dX11_ruled_24 : decode cX11_ruled 24 = .ok (.ireturn, 1) := by decide +kernel
theorem dX11_ruled_25 : decode cX11_ruled 25 = .ok (.aload_n 0, 1) := by decide +kernel
theorem dX11_ruled_26 : decode cX11_ruled 26 = .ok (.getfield 75, 3) := by decide +kernel
theorem dX11_ruled_29 : decode cX11_ruled 29 = .ok (.aload_n 0, 1) := by decide +kernel
theorem dX11_ruled_30 : decode cX11_ruled 30 = .ok (.getfield 61, 3) := by decide +kernel
theorem dX11_ruled_33 : decode cX11_ruled 33 = .ok (.aload_n 0, 1) := by decide +kernel
theorem dX11_ruled_34 : decode cX11_ruled 34 = .ok (.getfield 43, 3) := by decide +kernel
theorem dX11_ruled_37 : decode cX11_ruled 37 = .ok (.aload_n 0, 1) := by decide +kernel
theorem dX11_ruled_38 : decode cX11_ruled 38 = .ok (.getfield 32, 3) := by decide +kernel
theorem dX11_ruled_41 : decode cX11_ruled 41 = .ok (.aload_n 0, 1) := by decide +kernel
theorem dX11_ruled_42 : decode cX11_ruled 42 = .ok (.getfield 36, 3) := by decide +kernel
theorem dX11_ruled_45 : decode cX11_ruled 45 = .ok (.iconst (-1), 1) := by decide +kernel
theorem dX11_ruled_46 : decode cX11_ruled 46 = .ok (.invokevirtual 243, 3) := by decide +kernel
theorem dX11_ruled_49 : decode cX11_ruled 49 = .ok (.iload_n 1, 1) := by decide +kernel
theorem dX11_ruled_50 : decode cX11_ruled 50 = .ok (.ifCond .ne 11, 3) := by decide +kernel
theorem dX11_ruled_53 : decode cX11_ruled 53 = .ok (.aload_n 0, 1) := by decide +kernel
theorem dX11_ruled_54 : decode cX11_ruled 54 = .ok (.getfield 75, 3) := by decide +kernel
theorem dX11_ruled_57 : decode cX11_ruled 57 = .ok (.getfield 247, 3) := by decide +kernel
theorem dX11_ruled_60 : decode cX11_ruled 60 = .ok (.ireturn, 1) := by decide +kernel
theorem dX11_ruled_61 : decode cX11_ruled 61 = .ok (.aload_n 0, 1) := by decide +kernel
theorem dX11_ruled_62 : decode cX11_ruled 62 = .ok (.getfield 75, 3) := by decide +kernel
theorem dX11_ruled_65 : decode cX11_ruled 65 = .ok (.getfield 247, 3) := by decide +kernel
theorem dX11_ruled_68 : decode cX11_ruled 68 = .ok (.ifCond .ne 8, 3) := by decide +kernel
theorem dX11_ruled_71 : decode cX11_ruled 71 = .ok (.bipush (-2), 2) := by decide +kernel
theorem dX11_ruled_73 : decode cX11_ruled 73 = .ok (.goto 10, 3) := by decide +kernel
theorem dX11_ruled_76 : decode cX11_ruled 76 = .ok (.aload_n 0, 1) := by decide +kernel
theorem dX11_ruled_77 : decode cX11_ruled 77 = .ok (.getfield 75, 3) := by decide +kernel
theorem dX11_ruled_80 : decode cX11_ruled 80 = .ok (.getfield 250, 3) := by decide +kernel
theorem dX11_ruled_83 : decode cX11_ruled 83 = .ok (.ireturn, 1) := by decide +kernel
theorem dX11_shoot_0 : decode cX11_shoot 0 = .ok (.aload_n 0, 1) := by decide +kernel
theorem dX11_shoot_1 : decode cX11_shoot 1 = .ok (.getfield 43, 3) := by decide +kernel
theorem dX11_shoot_4 : decode cX11_shoot 4 = .ok (.getfield 111, 3) := by decide +kernel
theorem dX11_shoot_7 : decode cX11_shoot 7 = .ok (.astore_n 3, 1) := by decide +kernel
theorem dX11_shoot_8 : decode cX11_shoot 8 = .ok (.aload_n 3, 1) := by decide +kernel
theorem dX11_shoot_9 : decode cX11_shoot 9 = .ok (.iload_n 1, 1) := by decide +kernel
theorem dX11_shoot_10 : decode cX11_shoot 10 = .ok (.invokevirtual 139, 3) := by decide +kernel
theorem dX11_shoot_13 : decode cX11_shoot 13 = .ok (.ifCond .eq 24, 3) := by decide +kernel
theorem dX11_shoot_16 : decode cX11_shoot 16 = .ok (.aload_n 3, 1) := by decide +kernel
theorem dX11_shoot_17 : decode cX11_shoot 17 = .ok (.iload_n 2, 1) := by decide +kernel
theorem dX11_shoot_18 : decode cX11_shoot 18 = .ok (.invokevirtual 136, 3) := by decide +kernel
theorem dX11_shoot_21 : decode cX11_shoot 21 = .ok (.ifCond .eq 16, 3) := by decide +kernel
theorem dX11_shoot_24 : decode cX11_shoot 24 = .ok (.aload_n 3, 1) := by decide +kernel
theorem dX11_shoot_25 : decode cX11_shoot 25 = .ok (.getfield 124, 3) := by decide +kernel
theorem dX11_shoot_28 : decode cX11_shoot 28 = .ok (.bipush 58, 2) := by decide +kernel
theorem dX11_shoot_30 : decode cX11_shoot 30 = .ok (.iload_n 1, 1) := by decide +kernel
theorem dX11_shoot_31 : decode cX11_shoot 31 = .ok (.iadd, 1) := by decide +kernel
theorem dX11_shoot_32 : decode cX11_shoot 32 = .ok (.iaload, 1) := by decide +kernel
theorem dX11_shoot_33 : decode cX11_shoot 33 = .ok (.iconst 1, 1) := by decide +kernel
theorem dX11_shoot_34 : decode cX11_shoot 34 = .ok (.if_icmp .ge 5, 3) := by decide +kernel
theorem dX11_shoot_37 : decode cX11_shoot 37 = .ok (.iconst (-1), 1) := by decide +kernel
theorem dX11_shoot_38 : decode cX11_shoot 38 = .ok (.ireturn, 1) := by decide +kernel
theorem dX11_shoot_39 : decode cX11_shoot 39 = .ok (.aload_n 0, 1) := by decide +kernel
theorem dX11_shoot_40 : decode cX11_shoot 40 = .ok (.getfield 54, 3) := by decide +kernel
theorem dX11_shoot_43 : decode cX11_shoot 43 = .ok (.aload_n 3, 1) := by decide +kernel
theorem dX11_shoot_44 : decode cX11_shoot 44 = .ok (.invokevirtual 156, 3) := by decide +kernel
theorem dX11_shoot_47 : decode cX11_shoot 47 = .ok (.aload_n 3, 1) := by decide +kernel
theorem dX11_shoot_48 : decode cX11_shoot 48 = .ok (.iload_n 1, 1) := by decide +kernel
theorem dX11_shoot_49 : decode cX11_shoot 49 = .ok (.iload_n 2, 1) := by decide +kernel
theorem dX11_shoot_50 : decode cX11_shoot 50 = .ok (.aload_n 3, 1) := by decide +kernel
theorem dX11_shoot_51 : decode cX11_shoot 51 = .ok (.aload_n 3, 1) := by decide +kernel
theorem dX11_shoot_52 : decode cX11_shoot 52 = .ok (.getfield 124, 3) := by decide +kernel
theorem dX11_shoot_55 : decode cX11_shoot 55 = .ok (.bipush 6, 2) := by decide +kernel
theorem dX11_shoot_57 : decode cX11_shoot 57 = .ok (.iaload, 1) := by decide +kernel
theorem dX11_shoot_58 : decode cX11_shoot 58 = .ok (.invokevirtual 142, 3) := by decide +kernel
theorem dX11_shoot_61 : decode cX11_shoot 61 = .ok (.invokevirtual 171, 3) := by decide +kernel
theorem dX11_shoot_64 : decode cX11_shoot 64 = .ok (.invokestatic 175, 3) := by decide +kernel
theorem dX11_shoot_67 : decode cX11_shoot 67 = .ok (.ireturn, 1) := by decide +kernel
theorem dX11_teach_0 : decode cX11_teach 0 = .ok (.aload_n 0, 1) := by decide +kernel
theorem dX11_teach_1 : decode cX11_teach 1 = .ok (.getfield 43, 3) := by decide +kernel
theorem dX11_teach_4 : decode cX11_teach 4 = .ok (.getfield 111, 3) := by decide +kernel
theorem dX11_teach_7 : decode cX11_teach 7 = .ok (.astore_n 3, 1) := by decide +kernel
theorem dX11_teach_8 : decode cX11_teach 8 = .ok (.aload_n 3, 1) := by decide +kernel
theorem dX11_teach_9 : decode cX11_teach 9 = .ok (.iload_n 1, 1) := by decide +kernel
theorem dX11_teach_10 : decode cX11_teach 10 = .ok (.invokevirtual 139, 3) := by decide +kernel
theorem dX11_teach_13 : decode cX11_teach 13 = .ok (.ifCond .eq 13, 3) := by decide +kernel
theorem dX11_teach_16 : decode cX11_teach 16 = .ok (.iload_n 2, 1) := by decide +kernel
theorem dX11_teach_17 : decode cX11_teach 17 = .ok (.iconst 1, 1) := by decide +kernel
theorem dX11_teach_18 : decode cX11_teach 18 = .ok (.bipush 9, 2) := by decide +kernel
theorem dX11_teach_20 : decode cX11_teach 20 = .ok (.invokestatic 90, 3) := by decide +kernel
theorem dX11_teach_23 : decode cX11_teach 23 = .ok (.ifCond .ne 5, 3) := by decide +kernel
theorem dX11_teach_26 : decode cX11_teach 26 = .ok (.iconst (-1), 1) := by decide +kernel
theorem dX11_teach_27 : decode cX11_teach 27 = .ok (.ireturn, 1) := by decide +kernel
theorem dX11_teach_28 : decode cX11_teach 28 = .ok (.aload_n 3, 1) := by decide +kernel
theorem dX11_teach_29 : decode cX11_teach 29 = .ok (.getfield 124, 3) := by decide +kernel
theorem dX11_teach_32 : decode cX11_teach 32 = .ok (.bipush 43, 2) := by decide +kernel
theorem dX11_teach_34 : decode cX11_teach 34 = .ok (.iload_n 1, 1) := by decide +kernel
theorem dX11_teach_35 : decode cX11_teach 35 = .ok (.iadd, 1) := by decide +kernel
theorem dX11_teach_36 : decode cX11_teach 36 = .ok (.iaload, 1) := by decide +kernel
theorem dX11_teach_37 : decode cX11_teach 37 = .ok (.istore 4, 2) := by decide +kernel
theorem dX11_teach_39 : decode cX11_teach 39 = .ok (.iload 4, 2) := by decide +kernel
theorem dX11_teach_41 : decode cX11_teach 41 = .ok (.iload_n 2, 1) := by decide +kernel
theorem dX11_teach_42 : decode cX11_teach 42 = .ok (.if_icmp .ne 5, 3) := by decide +kernel
theorem dX11_teach_45 : decode cX11_teach 45 = .ok (.iconst (-1), 1) := by decide +kernel
theorem dX11_teach_46 : decode cX11_teach 46 = .ok (.ireturn, 1) := by decide +kernel
theorem dX11_teach_47 : decode cX11_teach 47 = .ok (.aload_n 0, 1) := by decide +kernel
theorem dX11_teach_48 : decode cX11_teach 48 = .ok (.getfield 54, 3) := by decide +kernel
theorem dX11_teach_51 : decode cX11_teach 51 = .ok (.aload_n 3, 1) := by decide +kernel
theorem dX11_teach_52 : decode cX11_teach 52 = .ok (.invokevirtual 156, 3) := by decide +kernel
theorem dX11_teach_55 : decode cX11_teach 55 = .ok (.aload_n 3, 1) := by decide +kernel
theorem dX11_teach_56 : decode cX11_teach 56 = .ok (.getfield 124, 3) := by decide +kernel
theorem dX11_teach_59 : decode cX11_teach 59 = .ok (.bipush 43, 2) := by decide +kernel
theorem dX11_teach_61 : decode cX11_teach 61 = .ok (.iload_n 1, 1) := by decide +kernel
theorem dX11_teach_62 : decode cX11_teach 62 = .ok (.iadd, 1) := by decide +kernel
theorem dX11_teach_63 : decode cX11_teach 63 = .ok (.iload_n 2, 1) := by decide +kernel
theorem dX11_teach_64 : decode cX11_teach 64 = .ok (.iastore, 1) := by decide +kernel
theorem dX11_teach_65 : decode cX11_teach 65 = .ok (.iload 4, 2) := by decide +kernel
theorem dX11_teach_67 : decode cX11_teach 67 = .ok (.ireturn, 1) := by decide +kernel
theorem dX12_ahead_0 : decode cX12_ahead 0 = .ok (.aload_n 0, 1) := by decide +kernel
theorem dX12_ahead_1 : decode cX12_ahead 1 = .ok (.invokevirtual 294, 3) := by decide +kernel
theorem dX12_ahead_4 : decode cX12_ahead 4 = .ok (.ifCond .eq 40, 3) := by decide +kernel
theorem dX12_ahead_7 : decode cX12_ahead 7 = .ok (.iload_n 2, 1) := by decide +kernel
theorem dX12_ahead_8 : decode cX12_ahead 8 = .ok (.i2l, 1) := by decide +kernel
theorem dX12_ahead_9 : decode cX12_ahead 9 = .ok (.lconst 0, 1) := by decide +kernel
theorem dX12_ahead_10 : decode cX12_ahead 10 = .ok (.ldc2_w 370, 3) := by decide +kernel
theorem dX12_ahead_13 : decode cX12_ahead 13 = .ok (.invokestatic 127, 3) := by decide +kernel
theorem dX12_ahead_16 : decode cX12_ahead 16 = .ok (.ifCond .eq 28, 3) := by decide +kernel
theorem dX12_ahead_19 : decode cX12_ahead 19 = .ok (.iload_n 3, 1) := by decide +kernel
theorem dX12_ahead_20 : decode cX12_ahead 20 = .ok (.i2l, 1) := by decide +kernel
theorem dX12_ahead_21 : decode cX12_ahead 21 = .ok (.lconst 0, 1) := by decide +kernel
theorem dX12_ahead_22 : decode cX12_ahead 22 = .ok (.ldc2_w 312, 3) := by decide +kernel
theorem dX12_ahead_25 : decode cX12_ahead 25 = .ok (.invokestatic 127, 3) := by decide +kernel
theorem dX12_ahead_28 : decode cX12_ahead 28 = .ok (.ifCond .eq 16, 3) := by decide +kernel
theorem dX12_ahead_31 : decode cX12_ahead 31 = .ok (.iload_n 3, 1) := by decide +kernel
theorem dX12_ahead_32 : decode cX12_ahead 32 = .ok (.iconst 2, 1) := by decide +kernel
theorem dX12_ahead_33 : decode cX12_ahead 33 = .ok (.if_icmp .ge 13, 3) := by decide +kernel
theorem dX12_ahead_36 : decode cX12_ahead 36 = .ok (.aload_n 0, 1) := by decide +kernel
theorem dX12_ahead_37 : decode cX12_ahead 37 = .ok (.iload_n 1, 1) := by decide +kernel
theorem dX12_ahead_38 : decode cX12_ahead 38 = .ok (.invokevirtual 314, 3) := by decide +kernel
theorem dX12_ahead_41 : decode cX12_ahead 41 = .ok (.ifCond .ne 5, 3) := by decide +kernel
theorem dX12_ahead_44 : decode cX12_ahead 44 = .ok (.iconst (-1), 1) := by decide +kernel
theorem dX12_ahead_45 : decode cX12_ahead 45 = .ok (.ireturn, 1) := by decide +kernel
theorem dX12_ahead_46 : decode cX12_ahead 46 = .ok (.aload_n 0, 1) := by decide +kernel
theorem dX12_ahead_47 : decode cX12_ahead 47 = .ok (.invokevirtual 372, 3) := by decide +kernel
theorem dX12_ahead_50 : decode cX12_ahead 50 = .ok (.aload_n 0, 1) := by decide +kernel
theorem dX12_ahead_51 : decode cX12_ahead 51 = .ok (.iload_n 2, 1) := by decide +kernel
theorem dX12_ahead_52 : decode cX12_ahead 52 = .ok (.invokevirtual 375, 3) := by decide +kernel
theorem dX12_ahead_55 : decode cX12_ahead 55 = .ok (.iload_n 3, 1) := by decide +kernel
theorem dX12_ahead_56 : decode cX12_ahead 56 = .ok (.ifCond .ne 11, 3) := by decide +kernel
theorem dX12_ahead_59 : decode cX12_ahead 59 = .ok (.aload_n 0, 1) := by decide +kernel
theorem dX12_ahead_60 : decode cX12_ahead 60 = .ok (.iload_n 1, 1) := by decide +kernel
theorem dX12_ahead_61 : decode cX12_ahead 61 = .ok (.invokevirtual 317, 3) := by decide +kernel
theorem dX12_ahead_64 : decode cX12_ahead 64 = .ok (.goto 23, 3) := by decide +kernel
theorem dX12_ahead_67 : decode cX12_ahead 67 = .ok (.iload_n 3, 1) := by decide +kernel
theorem dX12_ahead_68 : decode cX12_ahead 68 = .ok (.iconst 1, 1) := by decide +kernel
theorem dX12_ahead_69 : decode cX12_ahead 69 = .ok (.if_icmp .ne 11, 3) := by decide +kernel
theorem dX12_ahead_72 : decode cX12_ahead 72 = .ok (.aload_n 0, 1) := by decide +kernel
theorem dX12_ahead_73 : decode cX12_ahead 73 = .ok (.iload_n 1, 1) := by decide +kernel
theorem dX12_ahead_74 : decode cX12_ahead 74 = .ok (.invokevirtual 320, 3) := by decide +kernel
theorem dX12_ahead_77 : decode cX12_ahead 77 = .ok (.goto 10, 3) := by decide +kernel
theorem dX12_ahead_80 : decode cX12_ahead 80 = .ok (.aload_n 0, 1) := by decide +kernel
theorem dX12_ahead_81 : decode cX12_ahead 81 = .ok (.getfield 39, 3) := by decide +kernel
theorem dX12_ahead_84 : decode cX12_ahead 84 = .ok (.bipush 12, 2) := by decide +kernel
theorem dX12_ahead_86 : decode cX12_ahead 86 = .ok (.iaload, 1) := by decide +kernel
theorem dX12_ahead_87 : decode cX12_ahead 87 = .ok (.istore 4, 2) := by decide +kernel
theorem dX12_ahead_89 : decode cX12_ahead 89 = .ok (.aload_n 0, 1) := by decide +kernel
theorem dX12_ahead_90 : decode cX12_ahead 90 = .ok (.invokevirtual 378, 3) := by decide +kernel
theorem dX12_ahead_93 : decode cX12_ahead 93 = .ok (.iload 4, 2) := by decide +kernel
theorem dX12_ahead_95 : decode cX12_ahead 95 = .ok (.ireturn, 1) := by decide +kernel
theorem dX12_count_0 : decode cX12_count 0 = .ok (.iload_n 1, 1) := by decide +kernel
theorem dX12_count_1 : decode cX12_count 1 = .ok (.tableswitch 171 0 15 #[79, 79, 88, 93, 93, 102, 107, 112, 120, 128, 134, 140, 148, 156, 161, 166], 79) := by decide +kernel
theorem dX12_count_80 : decode cX12_count 80 = .ok (.aload_n 0, 1) := by decide +kernel
theorem dX12_count_81 : decode cX12_count 81 = .ok (.getfield 39, 3) := by decide +kernel
theorem dX12_count_84 : decode cX12_count 84 = .ok (.iload_n 1, 1) := by decide +kernel
theorem dX12_count_85 : decode cX12_count 85 = .ok (.iconst 1, 1) := by decide +kernel
theorem dX12_count_86 : decode cX12_count 86 = .ok (.iadd, 1) := by decide +kernel
theorem dX12_count_87 : decode cX12_count 87 = .ok (.iaload, 1) := by decide +kernel
theorem dX12_count_88 : decode cX12_count 88 = .ok (.ireturn, 1) := by decide +kernel
theorem dX12_count_89 : decode cX12_count 89 = .ok (.aload_n 0, 1) := by decide +kernel
theorem dX12_count_90 : decode cX12_count 90 = .ok (.invokevirtual 323, 3) := by decide +kernel
theorem dX12_count_93 : decode cX12_count 93 = .ok (.ireturn, 1) := by decide +kernel
theorem dX12_count_94 : decode cX12_count 94 = .ok (.aload_n 0, 1) := by decide +kernel
theorem dX12_count_95 : decode cX12_count 95 = .ok (.getfield 39, 3) := by decide +kernel
theorem dX12_count_98 : decode cX12_count 98 = .ok (.iload_n 1, 1) := by decide +kernel
theorem dX12_count_99 : decode cX12_count 99 = .ok (.iconst 1, 1) := by decide +kernel
theorem dX12_count_100 : decode cX12_count 100 = .ok (.iadd, 1) := by decide +kernel
theorem dX12_count_101 : decode cX12_count 101 = .ok (.iaload, 1) := by decide +kernel
theorem dX12_count_102 : decode cX12_count 102 = .ok (.ireturn, 1) := by decide +kernel
theorem dX12_count_103 : decode cX12_count 103 = .ok (.aload_n 0, 1) := by decide +kernel
theorem dX12_count_104 : decode cX12_count 104 = .ok (.getfield 267, 3) := by decide +kernel
theorem dX12_count_107 : decode cX12_count 107 = .ok (.ireturn, 1) := by decide +kernel
theorem dX12_count_108 : decode cX12_count 108 = .ok (.aload_n 0, 1) := by decide +kernel
theorem dX12_count_109 : decode cX12_count 109 = .ok (.getfield 42, 3) := by decide +kernel
theorem dX12_count_112 : decode cX12_count 112 = .ok (.ireturn, 1) := by decide +kernel
theorem dX12_count_113 : decode cX12_count 113 = .ok (.aload_n 0, 1) := by decide +kernel
theorem dX12_count_114 : decode cX12_count 114 = .ok (.getfield 39, 3) := by decide +kernel
theorem dX12_count_117 : decode cX12_count 117 = .ok (.bipush 10, 2) := by decide +kernel
theorem dX12_count_119 : decode cX12_count 119 = .ok (.iaload, 1) := by decide +kernel
theorem dX12_count_120 : decode cX12_count 120 = .ok (.ireturn, 1) := by decide +kernel
theorem dX12_count_121 : decode cX12_count 121 = .ok (.aload_n 0, 1) := by decide +kernel
theorem dX12_count_122 : decode cX12_count 122 = .ok (.getfield 39, 3) := by decide +kernel
theorem dX12_count_125 : decode cX12_count 125 = .ok (.bipush 11, 2) := by decide +kernel
theorem dX12_count_127 : decode cX12_count 127 = .ok (.iaload, 1) := by decide +kernel
theorem dX12_count_128 : decode cX12_count 128 = .ok (.ireturn, 1) := by decide +kernel
theorem dX12_count_129 : decode cX12_count 129 = .ok (.aload_n 0, 1) := by decide +kernel
theorem dX12_count_130 : decode cX12_count 130 = .ok (.iconst 1, 1) := by decide +kernel
theorem dX12_count_131 : decode cX12_count 131 = .ok (.invokevirtual 381, 3) := by decide +kernel
theorem dX12_count_134 : decode cX12_count 134 = .ok (.ireturn, 1) := by decide +kernel
theorem dX12_count_135 : decode cX12_count 135 = .ok (.aload_n 0, 1) := by decide +kernel
theorem dX12_count_136 : decode cX12_count 136 = .ok (.iconst 2, 1) := by decide +kernel
theorem dX12_count_137 : decode cX12_count 137 = .ok (.invokevirtual 381, 3) := by decide +kernel
theorem dX12_count_140 : decode cX12_count 140 = .ok (.ireturn, 1) := by decide +kernel
theorem dX12_count_141 : decode cX12_count 141 = .ok (.aload_n 0, 1) := by decide +kernel
theorem dX12_count_142 : decode cX12_count 142 = .ok (.getfield 39, 3) := by decide +kernel
theorem dX12_count_145 : decode cX12_count 145 = .ok (.bipush 12, 2) := by decide +kernel
theorem dX12_count_147 : decode cX12_count 147 = .ok (.iaload, 1) := by decide +kernel
theorem dX12_count_148 : decode cX12_count 148 = .ok (.ireturn, 1) := by decide +kernel
theorem dX12_count_149 : decode cX12_count 149 = .ok (.aload_n 0, 1) := by decide +kernel
theorem dX12_count_150 : decode cX12_count 150 = .ok (.getfield 39, 3) := by decide +kernel
theorem dX12_count_153 : decode cX12_count 153 = .ok (.bipush 114, 2) := by decide +kernel
theorem dX12_count_155 : decode cX12_count 155 = .ok (.iaload, 1) := by decide +kernel
theorem dX12_count_156 : decode cX12_count 156 = .ok (.ireturn, 1) := by decide +kernel
theorem dX12_count_157 : decode cX12_count 157 = .ok (.aload_n 0, 1) := by decide +kernel
theorem dX12_count_158 : decode cX12_count 158 = .ok (.getfield 276, 3) := by decide +kernel
theorem dX12_count_161 : decode cX12_count 161 = .ok (.ireturn, 1) := by decide +kernel
theorem dX12_count_162 : decode cX12_count 162 = .ok (.aload_n 0, 1) := by decide +kernel
theorem dX12_count_163 : decode cX12_count 163 = .ok (.getfield 442, 3) := by decide +kernel
theorem dX12_count_166 : decode cX12_count 166 = .ok (.ireturn, 1) := by decide +kernel
theorem dX12_count_167 : decode cX12_count 167 = .ok (.aload_n 0, 1) := by decide +kernel
theorem dX12_count_168 : decode cX12_count 168 = .ok (.getfield 89, 3) := by decide +kernel
theorem dX12_count_171 : decode cX12_count 171 = .ok (.ireturn, 1) := by decide +kernel
theorem dX12_count_172 : decode cX12_count 172 = .ok (.iconst (-1), 1) := by decide +kernel
theorem dX12_count_173 : decode cX12_count 173 = .ok (.ireturn, 1) := by decide +kernel
theorem dX12_eased_0 : decode cX12_eased 0 = .ok (.aload_n 0, 1) := by decide +kernel
theorem dX12_eased_1 : decode cX12_eased 1 = .ok (.iload_n 1, 1) := by decide +kernel
theorem dX12_eased_2 : decode cX12_eased 2 = .ok (.invokevirtual 314, 3) := by decide +kernel
theorem dX12_eased_5 : decode cX12_eased 5 = .ok (.ifCond .eq 11, 3) := by decide +kernel
theorem dX12_eased_8 : decode cX12_eased 8 = .ok (.aload_n 0, 1) := by decide +kernel
theorem dX12_eased_9 : decode cX12_eased 9 = .ok (.iload_n 1, 1) := by decide +kernel
theorem dX12_eased_10 : decode cX12_eased 10 = .ok (.invokevirtual 384, 3) := by decide +kernel
theorem dX12_eased_13 : decode cX12_eased 13 = .ok (.goto 4, 3) := by decide +kernel
theorem dX12_eased_16 : decode cX12_eased 16 = .ok (.iconst (-1), 1) := by decide +kernel
theorem dX12_eased_17 : decode cX12_eased 17 = .ok (.ireturn, 1) := by decide +kernel
theorem dX12_given_0 : decode cX12_given 0 = .ok (.aload_n 0, 1) := by decide +kernel
theorem dX12_given_1 : decode cX12_given 1 = .ok (.invokevirtual 294, 3) := by decide +kernel
theorem dX12_given_4 : decode cX12_given 4 = .ok (.ifCond .eq 25, 3) := by decide +kernel
theorem dX12_given_7 : decode cX12_given 7 = .ok (.iload_n 1, 1) := by decide +kernel
theorem dX12_given_8 : decode cX12_given 8 = .ok (.i2l, 1) := by decide +kernel
theorem dX12_given_9 : decode cX12_given 9 = .ok (.lconst 1, 1) := by decide +kernel
theorem dX12_given_10 : decode cX12_given 10 = .ok (.ldc2_w 404, 3) := by decide +kernel
theorem dX12_given_13 : decode cX12_given 13 = .ok (.invokestatic 127, 3) := by decide +kernel
theorem dX12_given_16 : decode cX12_given 16 = .ok (.ifCond .eq 13, 3) := by decide +kernel
theorem dX12_given_19 : decode cX12_given 19 = .ok (.iload_n 2, 1) := by decide +kernel
theorem dX12_given_20 : decode cX12_given 20 = .ok (.i2l, 1) := by decide +kernel
theorem dX12_given_21 : decode cX12_given 21 = .ok (.lconst 0, 1) := by decide +kernel
theorem dX12_given_22 : decode cX12_given 22 = .ok (.lconst 1, 1) := by decide +kernel
end
section
theorem dX12_given_23 : decode cX12_given 23 = .ok (.invokestatic 127, 3) := by decide +kernel
theorem dX12_given_26 : decode cX12_given 26 = .ok (.ifCond .ne 6, 3) := by decide +kernel
theorem dX12_given_29 : decode cX12_given 29 = .ok (.bipush (-2), 2) := by decide +kernel
theorem dX12_given_31 : decode cX12_given 31 = .ok (.ireturn, 1) := by decide +kernel
theorem dX12_given_32 : decode cX12_given 32 = .ok (.aload_n 0, 1) := by decide +kernel
theorem dX12_given_33 : decode cX12_given 33 = .ok (.invokevirtual 372, 3) := by decide +kernel
theorem dX12_given_36 : decode cX12_given 36 = .ok (.iconst (-1), 1) := by decide +kernel
theorem dX12_given_37 : decode cX12_given 37 = .ok (.istore_n 3, 1) := by decide +kernel
theorem dX12_given_38 : decode cX12_given 38 = .ok (.aload_n 0, 1) := by decide +kernel
theorem dX12_given_39 : decode cX12_given 39 = .ok (.iload_n 1, 1) := by decide +kernel
theorem dX12_given_40 : decode cX12_given 40 = .ok (.invokevirtual 406, 3) := by decide +kernel
theorem dX12_given_43 : decode cX12_given 43 = .ok (.istore 4, 2) := by decide +kernel
theorem dX12_given_45 : decode cX12_given 45 = .ok (.iconst 0, 1) := by decide +kernel
theorem dX12_given_46 : decode cX12_given 46 = .ok (.istore 5, 2) := by decide +kernel
theorem dX12_given_48 : decode cX12_given 48 = .ok (.iload 5, 2) := by decide +kernel
theorem dX12_given_50 : decode cX12_given 50 = .ok (.aload_n 0, 1) := by decide +kernel
theorem dX12_given_51 : decode cX12_given 51 = .ok (.getfield 39, 3) := by decide +kernel
theorem dX12_given_54 : decode cX12_given 54 = .ok (.iconst 5, 1) := by decide +kernel
theorem dX12_given_55 : decode cX12_given 55 = .ok (.iaload, 1) := by decide +kernel
theorem dX12_given_56 : decode cX12_given 56 = .ok (.if_icmp .ge 39, 3) := by decide +kernel
theorem dX12_given_59 : decode cX12_given 59 = .ok (.aload_n 0, 1) := by decide +kernel
theorem dX12_given_60 : decode cX12_given 60 = .ok (.iload 5, 2) := by decide +kernel
theorem dX12_given_62 : decode cX12_given 62 = .ok (.invokevirtual 409, 3) := by decide +kernel
theorem dX12_given_65 : decode cX12_given 65 = .ok (.aload_n 0, 1) := by decide +kernel
theorem dX12_given_66 : decode cX12_given 66 = .ok (.iload_n 1, 1) := by decide +kernel
theorem dX12_given_67 : decode cX12_given 67 = .ok (.invokevirtual 406, 3) := by decide +kernel
theorem dX12_given_70 : decode cX12_given 70 = .ok (.istore 6, 2) := by decide +kernel
theorem dX12_given_72 : decode cX12_given 72 = .ok (.iload 6, 2) := by decide +kernel
theorem dX12_given_74 : decode cX12_given 74 = .ok (.iload 4, 2) := by decide +kernel
theorem dX12_given_76 : decode cX12_given 76 = .ok (.if_icmp .gt 6, 3) := by decide +kernel
theorem dX12_given_79 : decode cX12_given 79 = .ok (.goto 10, 3) := by decide +kernel
theorem dX12_given_82 : decode cX12_given 82 = .ok (.iload 5, 2) := by decide +kernel
theorem dX12_given_84 : decode cX12_given 84 = .ok (.istore_n 3, 1) := by decide +kernel
theorem dX12_given_85 : decode cX12_given 85 = .ok (.iload 6, 2) := by decide +kernel
theorem dX12_given_87 : decode cX12_given 87 = .ok (.istore 4, 2) := by decide +kernel
theorem dX12_given_89 : decode cX12_given 89 = .ok (.iinc 5 1, 3) := by decide +kernel
theorem dX12_given_92 : decode cX12_given 92 = .ok (.goto (-44), 3) := by decide +kernel
theorem dX12_given_95 : decode cX12_given 95 = .ok (.iload_n 2, 1) := by decide +kernel
theorem dX12_given_96 : decode cX12_given 96 = .ok (.ifCond .ne 7, 3) := by decide +kernel
theorem dX12_given_99 : decode cX12_given 99 = .ok (.iload_n 3, 1) := by decide +kernel
theorem dX12_given_100 : decode cX12_given 100 = .ok (.goto 5, 3) := by decide +kernel
theorem dX12_given_103 : decode cX12_given 103 = .ok (.iload 4, 2) := by decide +kernel
theorem dX12_given_105 : decode cX12_given 105 = .ok (.ireturn, 1) := by decide +kernel
theorem dX12_gusts_0 : decode cX12_gusts 0 = .ok (.aload_n 0, 1) := by decide +kernel
theorem dX12_gusts_1 : decode cX12_gusts 1 = .ok (.invokevirtual 294, 3) := by decide +kernel
theorem dX12_gusts_4 : decode cX12_gusts 4 = .ok (.ifCond .eq 50, 3) := by decide +kernel
theorem dX12_gusts_7 : decode cX12_gusts 7 = .ok (.iload_n 1, 1) := by decide +kernel
theorem dX12_gusts_8 : decode cX12_gusts 8 = .ok (.i2l, 1) := by decide +kernel
theorem dX12_gusts_9 : decode cX12_gusts 9 = .ok (.lconst 1, 1) := by decide +kernel
theorem dX12_gusts_10 : decode cX12_gusts 10 = .ok (.ldc2_w 457, 3) := by decide +kernel
theorem dX12_gusts_13 : decode cX12_gusts 13 = .ok (.invokestatic 127, 3) := by decide +kernel
theorem dX12_gusts_16 : decode cX12_gusts 16 = .ok (.ifCond .eq 38, 3) := by decide +kernel
theorem dX12_gusts_19 : decode cX12_gusts 19 = .ok (.iload_n 2, 1) := by decide +kernel
theorem dX12_gusts_20 : decode cX12_gusts 20 = .ok (.i2l, 1) := by decide +kernel
theorem dX12_gusts_21 : decode cX12_gusts 21 = .ok (.lconst 1, 1) := by decide +kernel
theorem dX12_gusts_22 : decode cX12_gusts 22 = .ok (.ldc2_w 404, 3) := by decide +kernel
theorem dX12_gusts_25 : decode cX12_gusts 25 = .ok (.invokestatic 127, 3) := by decide +kernel
theorem dX12_gusts_28 : decode cX12_gusts 28 = .ok (.ifCond .eq 26, 3) := by decide +kernel
theorem dX12_gusts_31 : decode cX12_gusts 31 = .ok (.iload_n 3, 1) := by decide +kernel
theorem dX12_gusts_32 : decode cX12_gusts 32 = .ok (.i2l, 1) := by decide +kernel
theorem dX12_gusts_33 : decode cX12_gusts 33 = .ok (.lconst 0, 1) := by decide +kernel
theorem dX12_gusts_34 : decode cX12_gusts 34 = .ok (.ldc2_w 370, 3) := by decide +kernel
theorem dX12_gusts_37 : decode cX12_gusts 37 = .ok (.invokestatic 127, 3) := by decide +kernel
theorem dX12_gusts_40 : decode cX12_gusts 40 = .ok (.ifCond .eq 14, 3) := by decide +kernel
theorem dX12_gusts_43 : decode cX12_gusts 43 = .ok (.iload 4, 2) := by decide +kernel
theorem dX12_gusts_45 : decode cX12_gusts 45 = .ok (.i2l, 1) := by decide +kernel
theorem dX12_gusts_46 : decode cX12_gusts 46 = .ok (.lconst 0, 1) := by decide +kernel
theorem dX12_gusts_47 : decode cX12_gusts 47 = .ok (.lconst 1, 1) := by decide +kernel
theorem dX12_gusts_48 : decode cX12_gusts 48 = .ok (.invokestatic 127, 3) := by decide +kernel
theorem dX12_gusts_51 : decode cX12_gusts 51 = .ok (.ifCond .ne 5, 3) := by decide +kernel
theorem dX12_gusts_54 : decode cX12_gusts 54 = .ok (.iconst (-1), 1) := by decide +kernel
theorem dX12_gusts_55 : decode cX12_gusts 55 = .ok (.ireturn, 1) := by decide +kernel
theorem dX12_gusts_56 : decode cX12_gusts 56 = .ok (.aload_n 0, 1) := by decide +kernel
theorem dX12_gusts_57 : decode cX12_gusts 57 = .ok (.aload_n 0, 1) := by decide +kernel
theorem dX12_gusts_58 : decode cX12_gusts 58 = .ok (.getfield 442, 3) := by decide +kernel
theorem dX12_gusts_61 : decode cX12_gusts 61 = .ok (.i2l, 1) := by decide +kernel
theorem dX12_gusts_62 : decode cX12_gusts 62 = .ok (.putfield 445, 3) := by decide +kernel
theorem dX12_gusts_65 : decode cX12_gusts 65 = .ok (.iconst 0, 1) := by decide +kernel
theorem dX12_gusts_66 : decode cX12_gusts 66 = .ok (.istore 5, 2) := by decide +kernel
theorem dX12_gusts_68 : decode cX12_gusts 68 = .ok (.iconst 0, 1) := by decide +kernel
theorem dX12_gusts_69 : decode cX12_gusts 69 = .ok (.istore 6, 2) := by decide +kernel
theorem dX12_gusts_71 : decode cX12_gusts 71 = .ok (.aload_n 0, 1) := by decide +kernel
theorem dX12_gusts_72 : decode cX12_gusts 72 = .ok (.iconst 1, 1) := by decide +kernel
theorem dX12_gusts_73 : decode cX12_gusts 73 = .ok (.invokevirtual 381, 3) := by decide +kernel
theorem dX12_gusts_76 : decode cX12_gusts 76 = .ok (.istore 7, 2) := by decide +kernel
theorem dX12_gusts_78 : decode cX12_gusts 78 = .ok (.aload_n 0, 1) := by decide +kernel
theorem dX12_gusts_79 : decode cX12_gusts 79 = .ok (.invokevirtual 372, 3) := by decide +kernel
theorem dX12_gusts_82 : decode cX12_gusts 82 = .ok (.iconst 0, 1) := by decide +kernel
theorem dX12_gusts_83 : decode cX12_gusts 83 = .ok (.istore 8, 2) := by decide +kernel
theorem dX12_gusts_85 : decode cX12_gusts 85 = .ok (.iload 8, 2) := by decide +kernel
theorem dX12_gusts_87 : decode cX12_gusts 87 = .ok (.iload_n 1, 1) := by decide +kernel
theorem dX12_gusts_88 : decode cX12_gusts 88 = .ok (.if_icmp .ge 78, 3) := by decide +kernel
theorem dX12_gusts_91 : decode cX12_gusts 91 = .ok (.iconst 0, 1) := by decide +kernel
theorem dX12_gusts_92 : decode cX12_gusts 92 = .ok (.istore 9, 2) := by decide +kernel
theorem dX12_gusts_94 : decode cX12_gusts 94 = .ok (.iload 9, 2) := by decide +kernel
theorem dX12_gusts_96 : decode cX12_gusts 96 = .ok (.iload_n 2, 1) := by decide +kernel
theorem dX12_gusts_97 : decode cX12_gusts 97 = .ok (.if_icmp .ge 34, 3) := by decide +kernel
theorem dX12_gusts_100 : decode cX12_gusts 100 = .ok (.aload_n 0, 1) := by decide +kernel
theorem dX12_gusts_101 : decode cX12_gusts 101 = .ok (.bipush 100, 2) := by decide +kernel
theorem dX12_gusts_103 : decode cX12_gusts 103 = .ok (.invokevirtual 459, 3) := by decide +kernel
theorem dX12_gusts_106 : decode cX12_gusts 106 = .ok (.iload_n 3, 1) := by decide +kernel
theorem dX12_gusts_107 : decode cX12_gusts 107 = .ok (.if_icmp .ge 13, 3) := by decide +kernel
theorem dX12_gusts_110 : decode cX12_gusts 110 = .ok (.aload_n 0, 1) := by decide +kernel
theorem dX12_gusts_111 : decode cX12_gusts 111 = .ok (.aload_n 0, 1) := by decide +kernel
theorem dX12_gusts_112 : decode cX12_gusts 112 = .ok (.bipush 9, 2) := by decide +kernel
theorem dX12_gusts_114 : decode cX12_gusts 114 = .ok (.invokevirtual 459, 3) := by decide +kernel
theorem dX12_gusts_117 : decode cX12_gusts 117 = .ok (.putfield 46, 3) := by decide +kernel
theorem dX12_gusts_120 : decode cX12_gusts 120 = .ok (.aload_n 0, 1) := by decide +kernel
theorem dX12_gusts_121 : decode cX12_gusts 121 = .ok (.invokevirtual 360, 3) := by decide +kernel
theorem dX12_gusts_124 : decode cX12_gusts 124 = .ok (.pop, 1) := by decide +kernel
theorem dX12_gusts_125 : decode cX12_gusts 125 = .ok (.iinc 9 1, 3) := by decide +kernel
theorem dX12_gusts_128 : decode cX12_gusts 128 = .ok (.goto (-34), 3) := by decide +kernel
theorem dX12_gusts_131 : decode cX12_gusts 131 = .ok (.iload 5, 2) := by decide +kernel
theorem dX12_gusts_133 : decode cX12_gusts 133 = .ok (.iload 7, 2) := by decide +kernel
theorem dX12_gusts_135 : decode cX12_gusts 135 = .ok (.aload_n 0, 1) := by decide +kernel
theorem dX12_gusts_136 : decode cX12_gusts 136 = .ok (.iconst 1, 1) := by decide +kernel
theorem dX12_gusts_137 : decode cX12_gusts 137 = .ok (.invokevirtual 381, 3) := by decide +kernel
theorem dX12_gusts_140 : decode cX12_gusts 140 = .ok (.isub, 1) := by decide +kernel
theorem dX12_gusts_141 : decode cX12_gusts 141 = .ok (.iadd, 1) := by decide +kernel
theorem dX12_gusts_142 : decode cX12_gusts 142 = .ok (.istore 5, 2) := by decide +kernel
theorem dX12_gusts_144 : decode cX12_gusts 144 = .ok (.iload 6, 2) := by decide +kernel
theorem dX12_gusts_146 : decode cX12_gusts 146 = .ok (.aload_n 0, 1) := by decide +kernel
theorem dX12_gusts_147 : decode cX12_gusts 147 = .ok (.getfield 39, 3) := by decide +kernel
theorem dX12_gusts_150 : decode cX12_gusts 150 = .ok (.bipush 12, 2) := by decide +kernel
theorem dX12_gusts_152 : decode cX12_gusts 152 = .ok (.iaload, 1) := by decide +kernel
theorem dX12_gusts_153 : decode cX12_gusts 153 = .ok (.iadd, 1) := by decide +kernel
theorem dX12_gusts_154 : decode cX12_gusts 154 = .ok (.istore 6, 2) := by decide +kernel
theorem dX12_gusts_156 : decode cX12_gusts 156 = .ok (.aload_n 0, 1) := by decide +kernel
theorem dX12_gusts_157 : decode cX12_gusts 157 = .ok (.invokevirtual 378, 3) := by decide +kernel
theorem dX12_gusts_160 : decode cX12_gusts 160 = .ok (.iinc 8 1, 3) := by decide +kernel
theorem dX12_gusts_163 : decode cX12_gusts 163 = .ok (.goto (-78), 3) := by decide +kernel
theorem dX12_gusts_166 : decode cX12_gusts 166 = .ok (.iload 4, 2) := by decide +kernel
theorem dX12_gusts_168 : decode cX12_gusts 168 = .ok (.ifCond .ne 8, 3) := by decide +kernel
theorem dX12_gusts_171 : decode cX12_gusts 171 = .ok (.iload 5, 2) := by decide +kernel
theorem dX12_gusts_173 : decode cX12_gusts 173 = .ok (.goto 5, 3) := by decide +kernel
theorem dX12_gusts_176 : decode cX12_gusts 176 = .ok (.iload 6, 2) := by decide +kernel
theorem dX12_gusts_178 : decode cX12_gusts 178 = .ok (.ireturn, 1) := by decide +kernel
theorem dX12_pence_0 : decode cX12_pence 0 = .ok (.aload_n 0, 1) := by decide +kernel
theorem dX12_pence_1 : decode cX12_pence 1 = .ok (.iload_n 2, 1) := by decide +kernel
theorem dX12_pence_2 : decode cX12_pence 2 = .ok (.invokevirtual 309, 3) := by decide +kernel
theorem dX12_pence_5 : decode cX12_pence 5 = .ok (.ifCond .eq 15, 3) := by decide +kernel
theorem dX12_pence_8 : decode cX12_pence 8 = .ok (.iload_n 1, 1) := by decide +kernel
theorem dX12_pence_9 : decode cX12_pence 9 = .ok (.i2l, 1) := by decide +kernel
theorem dX12_pence_10 : decode cX12_pence 10 = .ok (.lconst 0, 1) := by decide +kernel
theorem dX12_pence_11 : decode cX12_pence 11 = .ok (.ldc2_w 422, 3) := by decide +kernel
theorem dX12_pence_14 : decode cX12_pence 14 = .ok (.invokestatic 127, 3) := by decide +kernel
theorem dX12_pence_17 : decode cX12_pence 17 = .ok (.ifCond .ne 5, 3) := by decide +kernel
theorem dX12_pence_20 : decode cX12_pence 20 = .ok (.iconst (-1), 1) := by decide +kernel
theorem dX12_pence_21 : decode cX12_pence 21 = .ok (.ireturn, 1) := by decide +kernel
theorem dX12_pence_22 : decode cX12_pence 22 = .ok (.lconst 0, 1) := by decide +kernel
theorem dX12_pence_23 : decode cX12_pence 23 = .ok (.lstore_n 3, 1) := by decide +kernel
theorem dX12_pence_24 : decode cX12_pence 24 = .ok (.iconst 0, 1) := by decide +kernel
theorem dX12_pence_25 : decode cX12_pence 25 = .ok (.istore 5, 2) := by decide +kernel
theorem dX12_pence_27 : decode cX12_pence 27 = .ok (.iload 5, 2) := by decide +kernel
theorem dX12_pence_29 : decode cX12_pence 29 = .ok (.aload_n 0, 1) := by decide +kernel
theorem dX12_pence_30 : decode cX12_pence 30 = .ok (.getfield 39, 3) := by decide +kernel
theorem dX12_pence_33 : decode cX12_pence 33 = .ok (.iconst 4, 1) := by decide +kernel
theorem dX12_pence_34 : decode cX12_pence 34 = .ok (.iaload, 1) := by decide +kernel
theorem dX12_pence_35 : decode cX12_pence 35 = .ok (.if_icmp .ge 23, 3) := by decide +kernel
theorem dX12_pence_38 : decode cX12_pence 38 = .ok (.lload_n 3, 1) := by decide +kernel
theorem dX12_pence_39 : decode cX12_pence 39 = .ok (.aload_n 0, 1) := by decide +kernel
theorem dX12_pence_40 : decode cX12_pence 40 = .ok (.getfield 39, 3) := by decide +kernel
theorem dX12_pence_43 : decode cX12_pence 43 = .ok (.bipush 19, 2) := by decide +kernel
theorem dX12_pence_45 : decode cX12_pence 45 = .ok (.iload 5, 2) := by decide +kernel
theorem dX12_pence_47 : decode cX12_pence 47 = .ok (.iadd, 1) := by decide +kernel
theorem dX12_pence_48 : decode cX12_pence 48 = .ok (.iaload, 1) := by decide +kernel
theorem dX12_pence_49 : decode cX12_pence 49 = .ok (.i2l, 1) := by decide +kernel
theorem dX12_pence_50 : decode cX12_pence 50 = .ok (.ladd, 1) := by decide +kernel
theorem dX12_pence_51 : decode cX12_pence 51 = .ok (.lstore_n 3, 1) := by decide +kernel
theorem dX12_pence_52 : decode cX12_pence 52 = .ok (.iinc 5 1, 3) := by decide +kernel
theorem dX12_pence_55 : decode cX12_pence 55 = .ok (.goto (-28), 3) := by decide +kernel
theorem dX12_pence_58 : decode cX12_pence 58 = .ok (.lload_n 3, 1) := by decide +kernel
theorem dX12_pence_59 : decode cX12_pence 59 = .ok (.lconst 0, 1) := by decide +kernel
theorem dX12_pence_60 : decode cX12_pence 60 = .ok (.lcmp, 1) := by decide +kernel
theorem dX12_pence_61 : decode cX12_pence 61 = .ok (.ifCond .ne 5, 3) := by decide +kernel
theorem dX12_pence_64 : decode cX12_pence 64 = .ok (.iconst 0, 1) := by decide +kernel
theorem dX12_pence_65 : decode cX12_pence 65 = .ok (.ireturn, 1) := by decide +kernel
theorem dX12_pence_66 : decode cX12_pence 66 = .ok (.iload_n 1, 1) := by decide +kernel
theorem dX12_pence_67 : decode cX12_pence 67 = .ok (.i2l, 1) := by decide +kernel
theorem dX12_pence_68 : decode cX12_pence 68 = .ok (.aload_n 0, 1) := by decide +kernel
theorem dX12_pence_69 : decode cX12_pence 69 = .ok (.getfield 39, 3) := by decide +kernel
theorem dX12_pence_72 : decode cX12_pence 72 = .ok (.bipush 19, 2) := by decide +kernel
theorem dX12_pence_74 : decode cX12_pence 74 = .ok (.iload_n 2, 1) := by decide +kernel
theorem dX12_pence_75 : decode cX12_pence 75 = .ok (.iadd, 1) := by decide +kernel
theorem dX12_pence_76 : decode cX12_pence 76 = .ok (.iaload, 1) := by decide +kernel
theorem dX12_pence_77 : decode cX12_pence 77 = .ok (.i2l, 1) := by decide +kernel
theorem dX12_pence_78 : decode cX12_pence 78 = .ok (.lmul, 1) := by decide +kernel
theorem dX12_pence_79 : decode cX12_pence 79 = .ok (.lstore 5, 2) := by decide +kernel
theorem dX12_pence_81 : decode cX12_pence 81 = .ok (.iload_n 1, 1) := by decide +kernel
theorem dX12_pence_82 : decode cX12_pence 82 = .ok (.i2l, 1) := by decide +kernel
theorem dX12_pence_83 : decode cX12_pence 83 = .ok (.lstore 7, 2) := by decide +kernel
theorem dX12_pence_85 : decode cX12_pence 85 = .ok (.iconst 0, 1) := by decide +kernel
theorem dX12_pence_86 : decode cX12_pence 86 = .ok (.istore 9, 2) := by decide +kernel
theorem dX12_pence_88 : decode cX12_pence 88 = .ok (.iconst 0, 1) := by decide +kernel
theorem dX12_pence_89 : decode cX12_pence 89 = .ok (.istore 10, 2) := by decide +kernel
theorem dX12_pence_91 : decode cX12_pence 91 = .ok (.iload 10, 2) := by decide +kernel
theorem dX12_pence_93 : decode cX12_pence 93 = .ok (.aload_n 0, 1) := by decide +kernel
theorem dX12_pence_94 : decode cX12_pence 94 = .ok (.getfield 39, 3) := by decide +kernel
theorem dX12_pence_97 : decode cX12_pence 97 = .ok (.iconst 4, 1) := by decide +kernel
theorem dX12_pence_98 : decode cX12_pence 98 = .ok (.iaload, 1) := by decide +kernel
theorem dX12_pence_99 : decode cX12_pence 99 = .ok (.if_icmp .ge 74, 3) := by decide +kernel
theorem dX12_pence_102 : decode cX12_pence 102 = .ok (.iload_n 1, 1) := by decide +kernel
theorem dX12_pence_103 : decode cX12_pence 103 = .ok (.i2l, 1) := by decide +kernel
theorem dX12_pence_104 : decode cX12_pence 104 = .ok (.aload_n 0, 1) := by decide +kernel
theorem dX12_pence_105 : decode cX12_pence 105 = .ok (.getfield 39, 3) := by decide +kernel
theorem dX12_pence_108 : decode cX12_pence 108 = .ok (.bipush 19, 2) := by decide +kernel
theorem dX12_pence_110 : decode cX12_pence 110 = .ok (.iload 10, 2) := by decide +kernel
theorem dX12_pence_112 : decode cX12_pence 112 = .ok (.iadd, 1) := by decide +kernel
theorem dX12_pence_113 : decode cX12_pence 113 = .ok (.iaload, 1) := by decide +kernel
theorem dX12_pence_114 : decode cX12_pence 114 = .ok (.i2l, 1) := by decide +kernel
theorem dX12_pence_115 : decode cX12_pence 115 = .ok (.lmul, 1) := by decide +kernel
theorem dX12_pence_116 : decode cX12_pence 116 = .ok (.lstore 11, 2) := by decide +kernel
theorem dX12_pence_118 : decode cX12_pence 118 = .ok (.lload 7, 2) := by decide +kernel
theorem dX12_pence_120 : decode cX12_pence 120 = .ok (.lload 11, 2) := by decide +kernel
theorem dX12_pence_122 : decode cX12_pence 122 = .ok (.lload_n 3, 1) := by decide +kernel
theorem dX12_pence_123 : decode cX12_pence 123 = .ok (.ldiv, 1) := by decide +kernel
theorem dX12_pence_124 : decode cX12_pence 124 = .ok (.lsub, 1) := by decide +kernel
theorem dX12_pence_125 : decode cX12_pence 125 = .ok (.lstore 7, 2) := by decide +kernel
theorem dX12_pence_127 : decode cX12_pence 127 = .ok (.iload 9, 2) := by decide +kernel
theorem dX12_pence_129 : decode cX12_pence 129 = .ok (.lload 11, 2) := by decide +kernel
theorem dX12_pence_131 : decode cX12_pence 131 = .ok (.lload_n 3, 1) := by decide +kernel
theorem dX12_pence_132 : decode cX12_pence 132 = .ok (.lrem, 1) := by decide +kernel
theorem dX12_pence_133 : decode cX12_pence 133 = .ok (.lload 5, 2) := by decide +kernel
theorem dX12_pence_135 : decode cX12_pence 135 = .ok (.lload_n 3, 1) := by decide +kernel
theorem dX12_pence_136 : decode cX12_pence 136 = .ok (.lrem, 1) := by decide +kernel
theorem dX12_pence_137 : decode cX12_pence 137 = .ok (.lcmp, 1) := by decide +kernel
theorem dX12_pence_138 : decode cX12_pence 138 = .ok (.ifCond .gt 21, 3) := by decide +kernel
theorem dX12_pence_141 : decode cX12_pence 141 = .ok (.lload 11, 2) := by decide +kernel
theorem dX12_pence_143 : decode cX12_pence 143 = .ok (.lload_n 3, 1) := by decide +kernel
theorem dX12_pence_144 : decode cX12_pence 144 = .ok (.lrem, 1) := by decide +kernel
theorem dX12_pence_145 : decode cX12_pence 145 = .ok (.lload 5, 2) := by decide +kernel
theorem dX12_pence_147 : decode cX12_pence 147 = .ok (.lload_n 3, 1) := by decide +kernel
theorem dX12_pence_148 : decode cX12_pence 148 = .ok (.lrem, 1) := by decide +kernel
theorem dX12_pence_149 : decode cX12_pence 149 = .ok (.lcmp, 1) := by decide +kernel
theorem dX12_pence_150 : decode cX12_pence 150 = .ok (.ifCond .ne 13, 3) := by decide +kernel
theorem dX12_pence_153 : decode cX12_pence 153 = .ok (.iload 10, 2) := by decide +kernel
theorem dX12_pence_155 : decode cX12_pence 155 = .ok (.iload_n 2, 1) := by decide +kernel
theorem dX12_pence_156 : decode cX12_pence 156 = .ok (.if_icmp .ge 7, 3) := by decide +kernel
theorem dX12_pence_159 : decode cX12_pence 159 = .ok (.iconst 1, 1) := by decide +kernel
theorem dX12_pence_160 : decode cX12_pence 160 = .ok (.goto 4, 3) := by decide +kernel
theorem dX12_pence_163 : decode cX12_pence 163 = .ok (.iconst 0, 1) := by decide +kernel
theorem dX12_pence_164 : decode cX12_pence 164 = .ok (.iadd, 1) := by decide +kernel
theorem dX12_pence_165 : decode cX12_pence 165 = .ok (.istore 9, 2) := by decide +kernel
theorem dX12_pence_167 : decode cX12_pence 167 = .ok (.iinc 10 1, 3) := by decide +kernel
theorem dX12_pence_170 : decode cX12_pence 170 = .ok (.goto (-79), 3) := by decide +kernel
theorem dX12_pence_173 : decode cX12_pence 173 = .ok (.lload 5, 2) := by decide +kernel
theorem dX12_pence_175 : decode cX12_pence 175 = .ok (.lload_n 3, 1) := by decide +kernel
theorem dX12_pence_176 : decode cX12_pence 176 = .ok (.ldiv, 1) := by decide +kernel
theorem dX12_pence_177 : decode cX12_pence 177 = .ok (.l2i, 1) := by decide +kernel
theorem dX12_pence_178 : decode cX12_pence 178 = .ok (.iload 9, 2) := by decide +kernel
theorem dX12_pence_180 : decode cX12_pence 180 = .ok (.i2l, 1) := by decide +kernel
theorem dX12_pence_181 : decode cX12_pence 181 = .ok (.lload 7, 2) := by decide +kernel
theorem dX12_pence_183 : decode cX12_pence 183 = .ok (.lcmp, 1) := by decide +kernel
theorem dX12_pence_184 : decode cX12_pence 184 = .ok (.ifCond .ge 7, 3) := by decide +kernel
theorem dX12_pence_187 : decode cX12_pence 187 = .ok (.iconst 1, 1) := by decide +kernel
theorem dX12_pence_188 : decode cX12_pence 188 = .ok (.goto 4, 3) := by decide +kernel
theorem dX12_pence_191 : decode cX12_pence 191 = .ok (.iconst 0, 1) := by decide +kernel
theorem dX12_pence_192 : decode cX12_pence 192 = .ok (.iadd, 1) := by decide +kernel
theorem dX12_pence_193 : decode cX12_pence 193 = .ok (.ireturn, 1) := by decide +kernel
theorem dX12_rests_0 : decode cX12_rests 0 = .ok (.aload_n 0, 1) := by decide +kernel
theorem dX12_rests_1 : decode cX12_rests 1 = .ok (.iload_n 1, 1) := by decide +kernel
theorem dX12_rests_2 : decode cX12_rests 2 = .ok (.invokevirtual 314, 3) := by decide +kernel
theorem dX12_rests_5 : decode cX12_rests 5 = .ok (.ifCond .eq 41, 3) := by decide +kernel
theorem dX12_rests_8 : decode cX12_rests 8 = .ok (.aload_n 0, 1) := by decide +kernel
theorem dX12_rests_9 : decode cX12_rests 9 = .ok (.iload_n 2, 1) := by decide +kernel
theorem dX12_rests_10 : decode cX12_rests 10 = .ok (.invokevirtual 314, 3) := by decide +kernel
theorem dX12_rests_13 : decode cX12_rests 13 = .ok (.ifCond .eq 33, 3) := by decide +kernel
theorem dX12_rests_16 : decode cX12_rests 16 = .ok (.iload_n 1, 1) := by decide +kernel
theorem dX12_rests_17 : decode cX12_rests 17 = .ok (.iload_n 2, 1) := by decide +kernel
theorem dX12_rests_18 : decode cX12_rests 18 = .ok (.if_icmp .eq 28, 3) := by decide +kernel
theorem dX12_rests_21 : decode cX12_rests 21 = .ok (.iload_n 3, 1) := by decide +kernel
theorem dX12_rests_22 : decode cX12_rests 22 = .ok (.i2l, 1) := by decide +kernel
theorem dX12_rests_23 : decode cX12_rests 23 = .ok (.lconst 1, 1) := by decide +kernel
theorem dX12_rests_24 : decode cX12_rests 24 = .ok (.ldc2_w 366, 3) := by decide +kernel
theorem dX12_rests_27 : decode cX12_rests 27 = .ok (.invokestatic 127, 3) := by decide +kernel
theorem dX12_rests_30 : decode cX12_rests 30 = .ok (.ifCond .eq 16, 3) := by decide +kernel
theorem dX12_rests_33 : decode cX12_rests 33 = .ok (.iload 4, 2) := by decide +kernel
theorem dX12_rests_35 : decode cX12_rests 35 = .ok (.i2l, 1) := by decide +kernel
theorem dX12_rests_36 : decode cX12_rests 36 = .ok (.lconst 0, 1) := by decide +kernel
theorem dX12_rests_37 : decode cX12_rests 37 = .ok (.ldc2_w 312, 3) := by decide +kernel
theorem dX12_rests_40 : decode cX12_rests 40 = .ok (.invokestatic 127, 3) := by decide +kernel
theorem dX12_rests_43 : decode cX12_rests 43 = .ok (.ifCond .ne 5, 3) := by decide +kernel
theorem dX12_rests_46 : decode cX12_rests 46 = .ok (.iconst (-1), 1) := by decide +kernel
theorem dX12_rests_47 : decode cX12_rests 47 = .ok (.ireturn, 1) := by decide +kernel
theorem dX12_rests_48 : decode cX12_rests 48 = .ok (.aload_n 0, 1) := by decide +kernel
theorem dX12_rests_49 : decode cX12_rests 49 = .ok (.invokevirtual 372, 3) := by decide +kernel
theorem dX12_rests_52 : decode cX12_rests 52 = .ok (.iconst 0, 1) := by decide +kernel
theorem dX12_rests_53 : decode cX12_rests 53 = .ok (.istore 5, 2) := by decide +kernel
theorem dX12_rests_55 : decode cX12_rests 55 = .ok (.iload 5, 2) := by decide +kernel
theorem dX12_rests_57 : decode cX12_rests 57 = .ok (.aload_n 0, 1) := by decide +kernel
theorem dX12_rests_58 : decode cX12_rests 58 = .ok (.getfield 39, 3) := by decide +kernel
theorem dX12_rests_61 : decode cX12_rests 61 = .ok (.iconst 4, 1) := by decide +kernel
theorem dX12_rests_62 : decode cX12_rests 62 = .ok (.iaload, 1) := by decide +kernel
theorem dX12_rests_63 : decode cX12_rests 63 = .ok (.if_icmp .ge 40, 3) := by decide +kernel
theorem dX12_rests_66 : decode cX12_rests 66 = .ok (.iconst 0, 1) := by decide +kernel
theorem dX12_rests_67 : decode cX12_rests 67 = .ok (.istore 6, 2) := by decide +kernel
theorem dX12_rests_69 : decode cX12_rests 69 = .ok (.iload 6, 2) := by decide +kernel
theorem dX12_rests_71 : decode cX12_rests 71 = .ok (.aload_n 0, 1) := by decide +kernel
theorem dX12_rests_72 : decode cX12_rests 72 = .ok (.getfield 39, 3) := by decide +kernel
theorem dX12_rests_75 : decode cX12_rests 75 = .ok (.iconst 4, 1) := by decide +kernel
theorem dX12_rests_76 : decode cX12_rests 76 = .ok (.iaload, 1) := by decide +kernel
theorem dX12_rests_77 : decode cX12_rests 77 = .ok (.if_icmp .ge 20, 3) := by decide +kernel
theorem dX12_rests_80 : decode cX12_rests 80 = .ok (.aload_n 0, 1) := by decide +kernel
theorem dX12_rests_81 : decode cX12_rests 81 = .ok (.iload_n 1, 1) := by decide +kernel
theorem dX12_rests_82 : decode cX12_rests 82 = .ok (.iload_n 2, 1) := by decide +kernel
theorem dX12_rests_83 : decode cX12_rests 83 = .ok (.iload 5, 2) := by decide +kernel
theorem dX12_rests_85 : decode cX12_rests 85 = .ok (.iload 6, 2) := by decide +kernel
theorem dX12_rests_87 : decode cX12_rests 87 = .ok (.iload_n 3, 1) := by decide +kernel
theorem dX12_rests_88 : decode cX12_rests 88 = .ok (.invokevirtual 415, 3) := by decide +kernel
theorem dX12_rests_91 : decode cX12_rests 91 = .ok (.iinc 6 1, 3) := by decide +kernel
theorem dX12_rests_94 : decode cX12_rests 94 = .ok (.goto (-25), 3) := by decide +kernel
theorem dX12_rests_97 : decode cX12_rests 97 = .ok (.iinc 5 1, 3) := by decide +kernel
theorem dX12_rests_100 : decode cX12_rests 100 = .ok (.goto (-45), 3) := by decide +kernel
theorem dX12_rests_103 : decode cX12_rests 103 = .ok (.iconst 0, 1) := by decide +kernel
theorem dX12_rests_104 : decode cX12_rests 104 = .ok (.istore 5, 2) := by decide +kernel
theorem dX12_rests_106 : decode cX12_rests 106 = .ok (.iconst (-1), 1) := by decide +kernel
theorem dX12_rests_107 : decode cX12_rests 107 = .ok (.istore 6, 2) := by decide +kernel
theorem dX12_rests_109 : decode cX12_rests 109 = .ok (.aload_n 0, 1) := by decide +kernel
theorem dX12_rests_110 : decode cX12_rests 110 = .ok (.getfield 39, 3) := by decide +kernel
theorem dX12_rests_113 : decode cX12_rests 113 = .ok (.iconst 4, 1) := by decide +kernel
theorem dX12_rests_114 : decode cX12_rests 114 = .ok (.iaload, 1) := by decide +kernel
theorem dX12_rests_115 : decode cX12_rests 115 = .ok (.iconst 1, 1) := by decide +kernel
theorem dX12_rests_116 : decode cX12_rests 116 = .ok (.isub, 1) := by decide +kernel
theorem dX12_rests_117 : decode cX12_rests 117 = .ok (.istore 7, 2) := by decide +kernel
theorem dX12_rests_119 : decode cX12_rests 119 = .ok (.iload 7, 2) := by decide +kernel
theorem dX12_rests_121 : decode cX12_rests 121 = .ok (.ifCond .lt 57, 3) := by decide +kernel
theorem dX12_rests_124 : decode cX12_rests 124 = .ok (.aload_n 0, 1) := by decide +kernel
theorem dX12_rests_125 : decode cX12_rests 125 = .ok (.getfield 39, 3) := by decide +kernel
theorem dX12_rests_128 : decode cX12_rests 128 = .ok (.iconst 4, 1) := by decide +kernel
theorem dX12_rests_129 : decode cX12_rests 129 = .ok (.iaload, 1) := by decide +kernel
theorem dX12_rests_130 : decode cX12_rests 130 = .ok (.iconst 1, 1) := by decide +kernel
theorem dX12_rests_131 : decode cX12_rests 131 = .ok (.isub, 1) := by decide +kernel
theorem dX12_rests_132 : decode cX12_rests 132 = .ok (.istore 8, 2) := by decide +kernel
theorem dX12_rests_134 : decode cX12_rests 134 = .ok (.iload 8, 2) := by decide +kernel
theorem dX12_rests_136 : decode cX12_rests 136 = .ok (.ifCond .lt 36, 3) := by decide +kernel
theorem dX12_rests_139 : decode cX12_rests 139 = .ok (.aload_n 0, 1) := by decide +kernel
theorem dX12_rests_140 : decode cX12_rests 140 = .ok (.iload 7, 2) := by decide +kernel
theorem dX12_rests_142 : decode cX12_rests 142 = .ok (.iload 8, 2) := by decide +kernel
theorem dX12_rests_144 : decode cX12_rests 144 = .ok (.invokevirtual 419, 3) := by decide +kernel
theorem dX12_rests_147 : decode cX12_rests 147 = .ok (.ifCond .ne 6, 3) := by decide +kernel
theorem dX12_rests_150 : decode cX12_rests 150 = .ok (.goto 16, 3) := by decide +kernel
theorem dX12_rests_153 : decode cX12_rests 153 = .ok (.bipush 6, 2) := by decide +kernel
theorem dX12_rests_155 : decode cX12_rests 155 = .ok (.iload 7, 2) := by decide +kernel
theorem dX12_rests_157 : decode cX12_rests 157 = .ok (.imul, 1) := by decide +kernel
theorem dX12_rests_158 : decode cX12_rests 158 = .ok (.iload 8, 2) := by decide +kernel
theorem dX12_rests_160 : decode cX12_rests 160 = .ok (.iadd, 1) := by decide +kernel
theorem dX12_rests_161 : decode cX12_rests 161 = .ok (.istore 6, 2) := by decide +kernel
theorem dX12_rests_163 : decode cX12_rests 163 = .ok (.iinc 5 1, 3) := by decide +kernel
theorem dX12_rests_166 : decode cX12_rests 166 = .ok (.iinc 8 (-1), 3) := by decide +kernel
theorem dX12_rests_169 : decode cX12_rests 169 = .ok (.goto (-35), 3) := by decide +kernel
theorem dX12_rests_172 : decode cX12_rests 172 = .ok (.iinc 7 (-1), 3) := by decide +kernel
theorem dX12_rests_175 : decode cX12_rests 175 = .ok (.goto (-56), 3) := by decide +kernel
theorem dX12_rests_178 : decode cX12_rests 178 = .ok (.iload 4, 2) := by decide +kernel
theorem dX12_rests_180 : decode cX12_rests 180 = .ok (.ifCond .ne 6, 3) := by decide +kernel
theorem dX12_rests_183 : decode cX12_rests 183 = .ok (.iload 5, 2) := by decide +kernel
theorem dX12_rests_185 : decode cX12_rests 185 = .ok (.ireturn, 1) := by decide +kernel
theorem dX12_rests_186 : decode cX12_rests 186 = .ok (.iload 6, 2) := by decide +kernel
theorem dX12_rests_188 : decode cX12_rests 188 = .ok (.ifCond .ge 8, 3) := by decide +kernel
theorem dX12_rests_191 : decode cX12_rests 191 = .ok (.bipush (-2), 2) := by decide +kernel
theorem dX12_rests_193 : decode cX12_rests 193 = .ok (.goto 22, 3) := by decide +kernel
theorem dX12_rests_196 : decode cX12_rests 196 = .ok (.iload 4, 2) := by decide +kernel
theorem dX12_rests_198 : decode cX12_rests 198 = .ok (.iconst 1, 1) := by decide +kernel
theorem dX12_rests_199 : decode cX12_rests 199 = .ok (.if_icmp .ne 11, 3) := by decide +kernel
theorem dX12_rests_202 : decode cX12_rests 202 = .ok (.iload 6, 2) := by decide +kernel
theorem dX12_rests_204 : decode cX12_rests 204 = .ok (.bipush 6, 2) := by decide +kernel
theorem dX12_rests_206 : decode cX12_rests 206 = .ok (.idiv, 1) := by decide +kernel
theorem dX12_rests_207 : decode cX12_rests 207 = .ok (.goto 8, 3) := by decide +kernel
theorem dX12_rests_210 : decode cX12_rests 210 = .ok (.iload 6, 2) := by decide +kernel
theorem dX12_rests_212 : decode cX12_rests 212 = .ok (.bipush 6, 2) := by decide +kernel
theorem dX12_rests_214 : decode cX12_rests 214 = .ok (.irem, 1) := by decide +kernel
theorem dX12_rests_215 : decode cX12_rests 215 = .ok (.ireturn, 1) := by decide +kernel
theorem dX12_round_0 : decode cX12_round 0 = .ok (.aload_n 0, 1) := by decide +kernel
theorem dX12_round_1 : decode cX12_round 1 = .ok (.invokevirtual 294, 3) := by decide +kernel
theorem dX12_round_4 : decode cX12_round 4 = .ok (.ifCond .eq 16, 3) := by decide +kernel
theorem dX12_round_7 : decode cX12_round 7 = .ok (.aload_n 0, 1) := by decide +kernel
theorem dX12_round_8 : decode cX12_round 8 = .ok (.getfield 39, 3) := by decide +kernel
theorem dX12_round_11 : decode cX12_round 11 = .ok (.bipush 10, 2) := by decide +kernel
theorem dX12_round_13 : decode cX12_round 13 = .ok (.iaload, 1) := by decide +kernel
theorem dX12_round_14 : decode cX12_round 14 = .ok (.sipush 999, 3) := by decide +kernel
theorem dX12_round_17 : decode cX12_round 17 = .ok (.if_icmp .ne 5, 3) := by decide +kernel
theorem dX12_round_20 : decode cX12_round 20 = .ok (.iconst (-1), 1) := by decide +kernel
theorem dX12_round_21 : decode cX12_round 21 = .ok (.ireturn, 1) := by decide +kernel
theorem dX12_round_22 : decode cX12_round 22 = .ok (.aload_n 0, 1) := by decide +kernel
theorem dX12_round_23 : decode cX12_round 23 = .ok (.invokevirtual 363, 3) := by decide +kernel
theorem dX12_round_26 : decode cX12_round 26 = .ok (.aload_n 0, 1) := by decide +kernel
theorem dX12_round_27 : decode cX12_round 27 = .ok (.invokevirtual 360, 3) := by decide +kernel
theorem dX12_round_30 : decode cX12_round 30 = .ok (.ireturn, 1) := by decide +kernel
theorem dX12_ruled_0 : decode cX12_ruled 0 = .ok (.aload_n 0, 1) := by decide +kernel
theorem dX12_ruled_1 : decode cX12_ruled 1 = .ok (.invokevirtual 294, 3) := by decide +kernel
theorem dX12_ruled_4 : decode cX12_ruled 4 = .ok (.ifCond .eq 13, 3) := by decide +kernel
theorem dX12_ruled_7 : decode cX12_ruled 7 = .ok (.iload_n 1, 1) := by decide +kernel
theorem dX12_ruled_8 : decode cX12_ruled 8 = .ok (.i2l, 1) := by decide +kernel
theorem dX12_ruled_9 : decode cX12_ruled 9 = .ok (.lconst 0, 1) := by decide +kernel
theorem dX12_ruled_10 : decode cX12_ruled 10 = .ok (.lconst 1, 1) := by decide +kernel
theorem dX12_ruled_11 : decode cX12_ruled 11 = .ok (.invokestatic 127, 3) := by decide +kernel
theorem dX12_ruled_14 : decode cX12_ruled 14 = .ok (.ifCond .ne 6, 3) := by decide +kernel
theorem dX12_ruled_17 : decode cX12_ruled 17 = .ok (.bipush (-3), 2) := by decide +kernel
theorem dX12_ruled_19 : decode cX12_ruled 19 = .ok (.ireturn, 1) := by decide +kernel
theorem dX12_ruled_20 : decode cX12_ruled 20 = .ok (.aload_n 0, 1) := by decide +kernel
theorem dX12_ruled_21 : decode cX12_ruled 21 = .ok (.iconst 0, 1) := by decide +kernel
theorem dX12_ruled_22 : decode cX12_ruled 22 = .ok (.invokevirtual 432, 3) := by decide +kernel
theorem dX12_ruled_25 : decode cX12_ruled 25 = .ok (.iconst 0, 1) := by decide +kernel
theorem dX12_ruled_26 : decode cX12_ruled 26 = .ok (.istore_n 2, 1) := by decide +kernel
theorem dX12_ruled_27 : decode cX12_ruled 27 = .ok (.bipush (-2), 2) := by decide +kernel
theorem dX12_ruled_29 : decode cX12_ruled 29 = .ok (.istore_n 3, 1) := by decide +kernel
theorem dX12_ruled_30 : decode cX12_ruled 30 = .ok (.aload_n 0, 1) := by decide +kernel
theorem dX12_ruled_31 : decode cX12_ruled 31 = .ok (.getfield 267, 3) := by decide +kernel
theorem dX12_ruled_34 : decode cX12_ruled 34 = .ok (.istore 4, 2) := by decide +kernel
theorem dX12_ruled_36 : decode cX12_ruled 36 = .ok (.iload 4, 2) := by decide +kernel
theorem dX12_ruled_38 : decode cX12_ruled 38 = .ok (.ifCond .lt 30, 3) := by decide +kernel
theorem dX12_ruled_41 : decode cX12_ruled 41 = .ok (.aload_n 0, 1) := by decide +kernel
theorem dX12_ruled_42 : decode cX12_ruled 42 = .ok (.getfield 70, 3) := by decide +kernel
theorem dX12_ruled_45 : decode cX12_ruled 45 = .ok (.iload 4, 2) := by decide +kernel
theorem dX12_ruled_47 : decode cX12_ruled 47 = .ok (.baload, 1) := by decide +kernel
theorem dX12_ruled_48 : decode cX12_ruled 48 = .ok (.ifCond .ne 6, 3) := by decide +kernel
theorem dX12_ruled_51 : decode cX12_ruled 51 = .ok (.goto 11, 3) := by decide +kernel
theorem dX12_ruled_54 : decode cX12_ruled 54 = .ok (.iload 4, 2) := by decide +kernel
theorem dX12_ruled_56 : decode cX12_ruled 56 = .ok (.iconst 1, 1) := by decide +kernel
theorem dX12_ruled_57 : decode cX12_ruled 57 = .ok (.isub, 1) := by decide +kernel
theorem dX12_ruled_58 : decode cX12_ruled 58 = .ok (.istore_n 3, 1) := by decide +kernel
theorem dX12_ruled_59 : decode cX12_ruled 59 = .ok (.iinc 2 1, 3) := by decide +kernel
theorem dX12_ruled_62 : decode cX12_ruled 62 = .ok (.iinc 4 (-1), 3) := by decide +kernel
theorem dX12_ruled_65 : decode cX12_ruled 65 = .ok (.goto (-29), 3) := by decide +kernel
theorem dX12_ruled_68 : decode cX12_ruled 68 = .ok (.iload_n 1, 1) := by decide +kernel
theorem dX12_ruled_69 : decode cX12_ruled 69 = .ok (.ifCond .ne 7, 3) := by decide +kernel
theorem dX12_ruled_72 : decode cX12_ruled 72 = .ok (.iload_n 2, 1) := by decide +kernel
theorem dX12_ruled_73 : decode cX12_ruled 73 = .ok (.goto 4, 3) := by decide +kernel
theorem dX12_ruled_76 : decode cX12_ruled 76 = .ok (.iload_n 3, 1) := by decide +kernel
theorem dX12_ruled_77 : decode cX12_ruled 77 = .ok (.ireturn, 1) := by decide +kernel
theorem dX12_shoot_0 : decode cX12_shoot 0 = .ok (.aload_n 0, 1) := by decide +kernel
theorem dX12_shoot_1 : decode cX12_shoot 1 = .ok (.iload_n 1, 1) := by decide +kernel
theorem dX12_shoot_2 : decode cX12_shoot 2 = .ok (.invokevirtual 314, 3) := by decide +kernel
theorem dX12_shoot_5 : decode cX12_shoot 5 = .ok (.ifCond .eq 19, 3) := by decide +kernel
theorem dX12_shoot_8 : decode cX12_shoot 8 = .ok (.aload_n 0, 1) := by decide +kernel
theorem dX12_shoot_9 : decode cX12_shoot 9 = .ok (.iload_n 2, 1) := by decide +kernel
theorem dX12_shoot_10 : decode cX12_shoot 10 = .ok (.invokevirtual 309, 3) := by decide +kernel
theorem dX12_shoot_13 : decode cX12_shoot 13 = .ok (.ifCond .eq 11, 3) := by decide +kernel
theorem dX12_shoot_16 : decode cX12_shoot 16 = .ok (.aload_n 0, 1) := by decide +kernel
theorem dX12_shoot_17 : decode cX12_shoot 17 = .ok (.iload_n 1, 1) := by decide +kernel
theorem dX12_shoot_18 : decode cX12_shoot 18 = .ok (.invokevirtual 320, 3) := by decide +kernel
theorem dX12_shoot_21 : decode cX12_shoot 21 = .ok (.ifCond .ne 5, 3) := by decide +kernel
theorem dX12_shoot_24 : decode cX12_shoot 24 = .ok (.iconst (-1), 1) := by decide +kernel
theorem dX12_shoot_25 : decode cX12_shoot 25 = .ok (.ireturn, 1) := by decide +kernel
theorem dX12_shoot_26 : decode cX12_shoot 26 = .ok (.aload_n 0, 1) := by decide +kernel
theorem dX12_shoot_27 : decode cX12_shoot 27 = .ok (.invokevirtual 363, 3) := by decide +kernel
theorem dX12_shoot_30 : decode cX12_shoot 30 = .ok (.aload_n 0, 1) := by decide +kernel
theorem dX12_shoot_31 : decode cX12_shoot 31 = .ok (.iload_n 1, 1) := by decide +kernel
theorem dX12_shoot_32 : decode cX12_shoot 32 = .ok (.iload_n 2, 1) := by decide +kernel
theorem dX12_shoot_33 : decode cX12_shoot 33 = .ok (.invokevirtual 354, 3) := by decide +kernel
theorem dX12_shoot_36 : decode cX12_shoot 36 = .ok (.istore_n 3, 1) := by decide +kernel
theorem dX12_shoot_37 : decode cX12_shoot 37 = .ok (.iload_n 3, 1) := by decide +kernel
theorem dX12_shoot_38 : decode cX12_shoot 38 = .ok (.ifCond .ge 8, 3) := by decide +kernel
theorem dX12_shoot_41 : decode cX12_shoot 41 = .ok (.bipush (-2), 2) := by decide +kernel
theorem dX12_shoot_43 : decode cX12_shoot 43 = .ok (.goto 4, 3) := by decide +kernel
theorem dX12_shoot_46 : decode cX12_shoot 46 = .ok (.iload_n 3, 1) := by decide +kernel
theorem dX12_shoot_47 : decode cX12_shoot 47 = .ok (.ireturn, 1) := by decide +kernel
theorem dX12_teach_0 : decode cX12_teach 0 = .ok (.aload_n 0, 1) := by decide +kernel
theorem dX12_teach_1 : decode cX12_teach 1 = .ok (.iload_n 1, 1) := by decide +kernel
theorem dX12_teach_2 : decode cX12_teach 2 = .ok (.invokevirtual 314, 3) := by decide +kernel
theorem dX12_teach_5 : decode cX12_teach 5 = .ok (.ifCond .eq 24, 3) := by decide +kernel
theorem dX12_teach_8 : decode cX12_teach 8 = .ok (.iload_n 2, 1) := by decide +kernel
theorem dX12_teach_9 : decode cX12_teach 9 = .ok (.i2l, 1) := by decide +kernel
theorem dX12_teach_10 : decode cX12_teach 10 = .ok (.lconst 1, 1) := by decide +kernel
theorem dX12_teach_11 : decode cX12_teach 11 = .ok (.ldc2_w 368, 3) := by decide +kernel
theorem dX12_teach_14 : decode cX12_teach 14 = .ok (.invokestatic 127, 3) := by decide +kernel
theorem dX12_teach_17 : decode cX12_teach 17 = .ok (.ifCond .eq 12, 3) := by decide +kernel
theorem dX12_teach_20 : decode cX12_teach 20 = .ok (.aload_n 0, 1) := by decide +kernel
theorem dX12_teach_21 : decode cX12_teach 21 = .ok (.iload_n 1, 1) := by decide +kernel
theorem dX12_teach_22 : decode cX12_teach 22 = .ok (.invokevirtual 303, 3) := by decide +kernel
theorem dX12_teach_25 : decode cX12_teach 25 = .ok (.iload_n 2, 1) := by decide +kernel
theorem dX12_teach_26 : decode cX12_teach 26 = .ok (.if_icmp .ne 5, 3) := by decide +kernel
theorem dX12_teach_29 : decode cX12_teach 29 = .ok (.iconst (-1), 1) := by decide +kernel
theorem dX12_teach_30 : decode cX12_teach 30 = .ok (.ireturn, 1) := by decide +kernel
theorem dX12_teach_31 : decode cX12_teach 31 = .ok (.aload_n 0, 1) := by decide +kernel
theorem dX12_teach_32 : decode cX12_teach 32 = .ok (.invokevirtual 363, 3) := by decide +kernel
theorem dX12_teach_35 : decode cX12_teach 35 = .ok (.aload_n 0, 1) := by decide +kernel
theorem dX12_teach_36 : decode cX12_teach 36 = .ok (.iload_n 1, 1) := by decide +kernel
theorem dX12_teach_37 : decode cX12_teach 37 = .ok (.invokevirtual 303, 3) := by decide +kernel
theorem dX12_teach_40 : decode cX12_teach 40 = .ok (.istore_n 3, 1) := by decide +kernel
theorem dX12_teach_41 : decode cX12_teach 41 = .ok (.aload_n 0, 1) := by decide +kernel
theorem dX12_teach_42 : decode cX12_teach 42 = .ok (.getfield 39, 3) := by decide +kernel
theorem dX12_teach_45 : decode cX12_teach 45 = .ok (.bipush 25, 2) := by decide +kernel
theorem dX12_teach_47 : decode cX12_teach 47 = .ok (.iconst 3, 1) := by decide +kernel
theorem dX12_teach_48 : decode cX12_teach 48 = .ok (.iload_n 1, 1) := by decide +kernel
theorem dX12_teach_49 : decode cX12_teach 49 = .ok (.imul, 1) := by decide +kernel
theorem dX12_teach_50 : decode cX12_teach 50 = .ok (.iadd, 1) := by decide +kernel
theorem dX12_teach_51 : decode cX12_teach 51 = .ok (.iload_n 2, 1) := by decide +kernel
theorem dX12_teach_52 : decode cX12_teach 52 = .ok (.iastore, 1) := by decide +kernel
theorem dX12_teach_53 : decode cX12_teach 53 = .ok (.iload_n 3, 1) := by decide +kernel
theorem dX12_teach_54 : decode cX12_teach 54 = .ok (.ireturn, 1) := by decide +kernel
theorem dX1_isTold_0 : decode cX1_isTold 0 = .ok (.aload_n 0, 1) := by decide +kernel
theorem dX1_isTold_1 : decode cX1_isTold 1 = .ok (.getfield 11, 3) := by decide +kernel
theorem dX1_isTold_4 : decode cX1_isTold 4 = .ok (.iconst 0, 1) := by decide +kernel
theorem dX1_isTold_5 : decode cX1_isTold 5 = .ok (.iaload, 1) := by decide +kernel
theorem dX1_isTold_6 : decode cX1_isTold 6 = .ok (.ifCond .le 7, 3) := by decide +kernel
theorem dX1_isTold_9 : decode cX1_isTold 9 = .ok (.iconst 1, 1) := by decide +kernel
theorem dX1_isTold_10 : decode cX1_isTold 10 = .ok (.goto 4, 3) := by decide +kernel
theorem dX1_isTold_13 : decode cX1_isTold 13 = .ok (.iconst 0, 1) := by decide +kernel
theorem dX1_isTold_14 : decode cX1_isTold 14 = .ok (.ireturn, 1) := by decide +kernel
theorem dX10_failAt_0 : decode cX10_failAt 0 = .ok (.aload_n 0, 1) := by decide +kernel
theorem dX10_failAt_1 : decode cX10_failAt 1 = .ok (.getfield 43, 3) := by decide +kernel
theorem dX10_failAt_4 : decode cX10_failAt 4 = .ok (.ifCond .ne 15, 3) := by decide +kernel
theorem dX10_failAt_7 : decode cX10_failAt 7 = .ok (.aload_n 0, 1) := by decide +kernel
theorem dX10_failAt_8 : decode cX10_failAt 8 = .ok (.iconst 1, 1) := by decide +kernel
theorem dX10_failAt_9 : decode cX10_failAt 9 = .ok (.bipush 8, 2) := by decide +kernel
theorem dX10_failAt_11 : decode cX10_failAt 11 = .ok (.iload_n 1, 1) := by decide +kernel
theorem dX10_failAt_12 : decode cX10_failAt 12 = .ok (.imul, 1) := by decide +kernel
theorem dX10_failAt_13 : decode cX10_failAt 13 = .ok (.iadd, 1) := by decide +kernel
theorem dX10_failAt_14 : decode cX10_failAt 14 = .ok (.iload_n 2, 1) := by decide +kernel
theorem dX10_failAt_15 : decode cX10_failAt 15 = .ok (.iadd, 1) := by decide +kernel
theorem dX10_failAt_16 : decode cX10_failAt 16 = .ok (.putfield 43, 3) := by decide +kernel
theorem dX10_failAt_19 : decode cX10_failAt 19 = .ok (.return_, 1) := by decide +kernel
theorem dX10_isSign_0 : decode cX10_isSign 0 = .ok (.aload_n 0, 1) := by decide +kernel
theorem dX10_isSign_1 : decode cX10_isSign 1 = .ok (.getfield 34, 3) := by decide +kernel
theorem dX10_isSign_4 : decode cX10_isSign 4 = .ok (.iconst 4, 1) := by decide +kernel
theorem dX10_isSign_5 : decode cX10_isSign 5 = .ok (.if_icmp .ne 15, 3) := by decide +kernel
theorem dX10_isSign_8 : decode cX10_isSign 8 = .ok (.aload_n 0, 1) := by decide +kernel
theorem dX10_isSign_9 : decode cX10_isSign 9 = .ok (.getfield 37, 3) := by decide +kernel
theorem dX10_isSign_12 : decode cX10_isSign 12 = .ok (.iload_n 1, 1) := by decide +kernel
theorem dX10_isSign_13 : decode cX10_isSign 13 = .ok (.if_icmp .ne 7, 3) := by decide +kernel
theorem dX10_isSign_16 : decode cX10_isSign 16 = .ok (.iconst 1, 1) := by decide +kernel
theorem dX10_isSign_17 : decode cX10_isSign 17 = .ok (.goto 4, 3) := by decide +kernel
theorem dX10_isSign_20 : decode cX10_isSign 20 = .ok (.iconst 0, 1) := by decide +kernel
theorem dX10_isSign_21 : decode cX10_isSign 21 = .ok (.ireturn, 1) := by decide +kernel
theorem dX10_isWord_0 : decode cX10_isWord 0 = .ok (.aload_n 0, 1) := by decide +kernel
theorem dX10_isWord_1 : decode cX10_isWord 1 = .ok (.getfield 34, 3) := by decide +kernel
theorem dX10_isWord_4 : decode cX10_isWord 4 = .ok (.iconst 3, 1) := by decide +kernel
theorem dX10_isWord_5 : decode cX10_isWord 5 = .ok (.if_icmp .ne 15, 3) := by decide +kernel
theorem dX10_isWord_8 : decode cX10_isWord 8 = .ok (.aload_n 0, 1) := by decide +kernel
theorem dX10_isWord_9 : decode cX10_isWord 9 = .ok (.getfield 37, 3) := by decide +kernel
theorem dX10_isWord_12 : decode cX10_isWord 12 = .ok (.iload_n 1, 1) := by decide +kernel
theorem dX10_isWord_13 : decode cX10_isWord 13 = .ok (.if_icmp .ne 7, 3) := by decide +kernel
theorem dX10_isWord_16 : decode cX10_isWord 16 = .ok (.iconst 1, 1) := by decide +kernel
theorem dX10_isWord_17 : decode cX10_isWord 17 = .ok (.goto 4, 3) := by decide +kernel
theorem dX10_isWord_20 : decode cX10_isWord 20 = .ok (.iconst 0, 1) := by decide +kernel
theorem dX10_isWord_21 : decode cX10_isWord 21 = .ok (.ireturn, 1) := by decide +kernel
theorem dX11_archer_0 : decode cX11_archer 0 = .ok (.aload_n 0, 1) := by decide +kernel
theorem dX11_archer_1 : decode cX11_archer 1 = .ok (.getfield 43, 3) := by decide +kernel
theorem dX11_archer_4 : decode cX11_archer 4 = .ok (.getfield 111, 3) := by decide +kernel
theorem dX11_archer_7 : decode cX11_archer 7 = .ok (.iload_n 1, 1) := by decide +kernel
theorem dX11_archer_8 : decode cX11_archer 8 = .ok (.invokevirtual 139, 3) := by decide +kernel
theorem dX11_archer_11 : decode cX11_archer 11 = .ok (.ifCond .ne 5, 3) := by decide +kernel
theorem dX11_archer_14 : decode cX11_archer 14 = .ok (.iconst (-1), 1) := by decide +kernel
theorem dX11_archer_15 : decode cX11_archer 15 = .ok (.ireturn, 1) := by decide +kernel
theorem dX11_archer_16 : decode cX11_archer 16 = .ok (.iload_n 2, 1) := by decide +kernel
theorem dX11_archer_17 : decode cX11_archer 17 = .ok (.tableswitch 115 0 4 #[35, 51, 67, 83, 99], 35) := by decide +kernel
theorem dX11_archer_52 : decode cX11_archer 52 = .ok (.aload_n 0, 1) := by decide +kernel
theorem dX11_archer_53 : decode cX11_archer 53 = .ok (.getfield 43, 3) := by decide +kernel
theorem dX11_archer_56 : decode cX11_archer 56 = .ok (.getfield 111, 3) := by decide +kernel
theorem dX11_archer_59 : decode cX11_archer 59 = .ok (.getfield 124, 3) := by decide +kernel
theorem dX11_archer_62 : decode cX11_archer 62 = .ok (.bipush 38, 2) := by decide +kernel
theorem dX11_archer_64 : decode cX11_archer 64 = .ok (.iload_n 1, 1) := by decide +kernel
theorem dX11_archer_65 : decode cX11_archer 65 = .ok (.iadd, 1) := by decide +kernel
theorem dX11_archer_66 : decode cX11_archer 66 = .ok (.iaload, 1) := by decide +kernel
theorem dX11_archer_67 : decode cX11_archer 67 = .ok (.ireturn, 1) := by decide +kernel
theorem dX11_archer_68 : decode cX11_archer 68 = .ok (.aload_n 0, 1) := by decide +kernel
theorem dX11_archer_69 : decode cX11_archer 69 = .ok (.getfield 43, 3) := by decide +kernel
theorem dX11_archer_72 : decode cX11_archer 72 = .ok (.getfield 111, 3) := by decide +kernel
theorem dX11_archer_75 : decode cX11_archer 75 = .ok (.getfield 124, 3) := by decide +kernel
theorem dX11_archer_78 : decode cX11_archer 78 = .ok (.bipush 43, 2) := by decide +kernel
theorem dX11_archer_80 : decode cX11_archer 80 = .ok (.iload_n 1, 1) := by decide +kernel
theorem dX11_archer_81 : decode cX11_archer 81 = .ok (.iadd, 1) := by decide +kernel
theorem dX11_archer_82 : decode cX11_archer 82 = .ok (.iaload, 1) := by decide +kernel
theorem dX11_archer_83 : decode cX11_archer 83 = .ok (.ireturn, 1) := by decide +kernel
theorem dX11_archer_84 : decode cX11_archer 84 = .ok (.aload_n 0, 1) := by decide +kernel
theorem dX11_archer_85 : decode cX11_archer 85 = .ok (.getfield 43, 3) := by decide +kernel
theorem dX11_archer_88 : decode cX11_archer 88 = .ok (.getfield 111, 3) := by decide +kernel
theorem dX11_archer_91 : decode cX11_archer 91 = .ok (.getfield 124, 3) := by decide +kernel
theorem dX11_archer_94 : decode cX11_archer 94 = .ok (.bipush 48, 2) := by decide +kernel
theorem dX11_archer_96 : decode cX11_archer 96 = .ok (.iload_n 1, 1) := by decide +kernel
theorem dX11_archer_97 : decode cX11_archer 97 = .ok (.iadd, 1) := by decide +kernel
theorem dX11_archer_98 : decode cX11_archer 98 = .ok (.iaload, 1) := by decide +kernel
theorem dX11_archer_99 : decode cX11_archer 99 = .ok (.ireturn, 1) := by decide +kernel
theorem dX11_archer_100 : decode cX11_archer 100 = .ok (.aload_n 0, 1) := by decide +kernel
theorem dX11_archer_101 : decode cX11_archer 101 = .ok (.getfield 43, 3) := by decide +kernel
theorem dX11_archer_104 : decode cX11_archer 104 = .ok (.getfield 111, 3) := by decide +kernel
theorem dX11_archer_107 : decode cX11_archer 107 = .ok (.getfield 124, 3) := by decide +kernel
theorem dX11_archer_110 : decode cX11_archer 110 = .ok (.bipush 53, 2) := by decide +kernel
theorem dX11_archer_112 : decode cX11_archer 112 = .ok (.iload_n 1, 1) := by decide +kernel
theorem dX11_archer_113 : decode cX11_archer 113 = .ok (.iadd, 1) := by decide +kernel
theorem dX11_archer_114 : decode cX11_archer 114 = .ok (.iaload, 1) := by decide +kernel
theorem dX11_archer_115 : decode cX11_archer 115 = .ok (.ireturn, 1) := by decide +kernel
theorem dX11_archer_116 : decode cX11_archer 116 = .ok (.aload_n 0, 1) := by decide +kernel
theorem dX11_archer_117 : decode cX11_archer 117 = .ok (.getfield 43, 3) := by decide +kernel
theorem dX11_archer_120 : decode cX11_archer 120 = .ok (.getfield 111, 3) := by decide +kernel
theorem dX11_archer_123 : decode cX11_archer 123 = .ok (.getfield 124, 3) := by decide +kernel
theorem dX11_archer_126 : decode cX11_archer 126 = .ok (.bipush 58, 2) := by decide +kernel
theorem dX11_archer_128 : decode cX11_archer 128 = .ok (.iload_n 1, 1) := by decide +kernel
theorem dX11_archer_129 : decode cX11_archer 129 = .ok (.iadd, 1) := by decide +kernel
theorem dX11_archer_130 : decode cX11_archer 130 = .ok (.iaload, 1) := by decide +kernel
theorem dX11_archer_131 : decode cX11_archer 131 = .ok (.ireturn, 1) := by decide +kernel
theorem dX11_archer_132 : decode cX11_archer 132 = .ok (.iconst (-1), 1) := by decide +kernel
theorem dX11_archer_133 : decode cX11_archer 133 = .ok (.ireturn, 1) := by decide +kernel
theorem dX11_breath_0 : decode cX11_breath 0 = .ok (.aload_n 0, 1) := by decide +kernel
theorem dX11_breath_1 : decode cX11_breath 1 = .ok (.getfield 43, 3) := by decide +kernel
theorem dX11_breath_4 : decode cX11_breath 4 = .ok (.getfield 111, 3) := by decide +kernel
theorem dX11_breath_7 : decode cX11_breath 7 = .ok (.astore_n 2, 1) := by decide +kernel
theorem dX11_breath_8 : decode cX11_breath 8 = .ok (.aload_n 2, 1) := by decide +kernel
theorem dX11_breath_9 : decode cX11_breath 9 = .ok (.invokevirtual 152, 3) := by decide +kernel
theorem dX11_breath_12 : decode cX11_breath 12 = .ok (.ifCond .eq 13, 3) := by decide +kernel
theorem dX11_breath_15 : decode cX11_breath 15 = .ok (.iload_n 1, 1) := by decide +kernel
theorem dX11_breath_16 : decode cX11_breath 16 = .ok (.iconst 1, 1) := by decide +kernel
theorem dX11_breath_17 : decode cX11_breath 17 = .ok (.bipush 20, 2) := by decide +kernel
theorem dX11_breath_19 : decode cX11_breath 19 = .ok (.invokestatic 90, 3) := by decide +kernel
theorem dX11_breath_22 : decode cX11_breath 22 = .ok (.ifCond .ne 5, 3) := by decide +kernel
theorem dX11_breath_25 : decode cX11_breath 25 = .ok (.iconst (-1), 1) := by decide +kernel
theorem dX11_breath_26 : decode cX11_breath 26 = .ok (.ireturn, 1) := by decide +kernel
theorem dX11_breath_27 : decode cX11_breath 27 = .ok (.aload_n 0, 1) := by decide +kernel
theorem dX11_breath_28 : decode cX11_breath 28 = .ok (.getfield 54, 3) := by decide +kernel
theorem dX11_breath_31 : decode cX11_breath 31 = .ok (.aload_n 2, 1) := by decide +kernel
theorem dX11_breath_32 : decode cX11_breath 32 = .ok (.invokevirtual 156, 3) := by decide +kernel
theorem dX11_breath_35 : decode cX11_breath 35 = .ok (.aload_n 2, 1) := by decide +kernel
theorem dX11_breath_36 : decode cX11_breath 36 = .ok (.getfield 124, 3) := by decide +kernel
theorem dX11_breath_39 : decode cX11_breath 39 = .ok (.bipush 6, 2) := by decide +kernel
theorem dX11_breath_41 : decode cX11_breath 41 = .ok (.dup2, 1) := by decide +kernel
theorem dX11_breath_42 : decode cX11_breath 42 = .ok (.iaload, 1) := by decide +kernel
theorem dX11_breath_43 : decode cX11_breath 43 = .ok (.iload_n 1, 1) := by decide +kernel
theorem dX11_breath_44 : decode cX11_breath 44 = .ok (.iadd, 1) := by decide +kernel
theorem dX11_breath_45 : decode cX11_breath 45 = .ok (.iastore, 1) := by decide +kernel
theorem dX11_breath_46 : decode cX11_breath 46 = .ok (.aload_n 2, 1) := by decide +kernel
theorem dX11_breath_47 : decode cX11_breath 47 = .ok (.getfield 124, 3) := by decide +kernel
theorem dX11_breath_50 : decode cX11_breath 50 = .ok (.bipush 6, 2) := by decide +kernel
theorem dX11_breath_52 : decode cX11_breath 52 = .ok (.iaload, 1) := by decide +kernel
theorem dX11_breath_53 : decode cX11_breath 53 = .ok (.ireturn, 1) := by decide +kernel
theorem dX11_within_0 : decode cX11_within 0 = .ok (.iload_n 0, 1) := by decide +kernel
theorem dX11_within_1 : decode cX11_within 1 = .ok (.iload_n 1, 1) := by decide +kernel
theorem dX11_within_2 : decode cX11_within 2 = .ok (.if_icmp .lt 12, 3) := by decide +kernel
theorem dX11_within_5 : decode cX11_within 5 = .ok (.iload_n 0, 1) := by decide +kernel
theorem dX11_within_6 : decode cX11_within 6 = .ok (.iload_n 2, 1) := by decide +kernel
theorem dX11_within_7 : decode cX11_within 7 = .ok (.if_icmp .gt 7, 3) := by decide +kernel
theorem dX11_within_10 : decode cX11_within 10 = .ok (.iconst 1, 1) := by decide +kernel
theorem dX11_within_11 : decode cX11_within 11 = .ok (.goto 4, 3) := by decide +kernel
theorem dX11_within_14 : decode cX11_within 14 = .ok (.iconst 0, 1) := by decide +kernel
theorem dX11_within_15 : decode cX11_within 15 = .ok (.ireturn, 1) := by decide +kernel
theorem dX12_archer_0 : decode cX12_archer 0 = .ok (.aload_n 0, 1) := by decide +kernel
theorem dX12_archer_1 : decode cX12_archer 1 = .ok (.iload_n 1, 1) := by decide +kernel
theorem dX12_archer_2 : decode cX12_archer 2 = .ok (.invokevirtual 314, 3) := by decide +kernel
theorem dX12_archer_5 : decode cX12_archer 5 = .ok (.ifCond .ne 5, 3) := by decide +kernel
theorem dX12_archer_8 : decode cX12_archer 8 = .ok (.iconst (-1), 1) := by decide +kernel
theorem dX12_archer_9 : decode cX12_archer 9 = .ok (.ireturn, 1) := by decide +kernel
theorem dX12_archer_10 : decode cX12_archer 10 = .ok (.iload_n 2, 1) := by decide +kernel
theorem dX12_archer_11 : decode cX12_archer 11 = .ok (.tableswitch 71 0 4 #[33, 43, 49, 59, 65], 33) := by decide +kernel
theorem dX12_archer_44 : decode cX12_archer 44 = .ok (.aload_n 0, 1) := by decide +kernel
theorem dX12_archer_45 : decode cX12_archer 45 = .ok (.getfield 39, 3) := by decide +kernel
theorem dX12_archer_48 : decode cX12_archer 48 = .ok (.bipush 46, 2) := by decide +kernel
theorem dX12_archer_50 : decode cX12_archer 50 = .ok (.iload_n 1, 1) := by decide +kernel
theorem dX12_archer_51 : decode cX12_archer 51 = .ok (.iadd, 1) := by decide +kernel
theorem dX12_archer_52 : decode cX12_archer 52 = .ok (.iaload, 1) := by decide +kernel
theorem dX12_archer_53 : decode cX12_archer 53 = .ok (.ireturn, 1) := by decide +kernel
theorem dX12_archer_54 : decode cX12_archer 54 = .ok (.aload_n 0, 1) := by decide +kernel
theorem dX12_archer_55 : decode cX12_archer 55 = .ok (.iload_n 1, 1) := by decide +kernel
theorem dX12_archer_56 : decode cX12_archer 56 = .ok (.invokevirtual 303, 3) := by decide +kernel
theorem dX12_archer_59 : decode cX12_archer 59 = .ok (.ireturn, 1) := by decide +kernel
theorem dX12_archer_60 : decode cX12_archer 60 = .ok (.aload_n 0, 1) := by decide +kernel
theorem dX12_archer_61 : decode cX12_archer 61 = .ok (.getfield 39, 3) := by decide +kernel
theorem dX12_archer_64 : decode cX12_archer 64 = .ok (.bipush 51, 2) := by decide +kernel
theorem dX12_archer_66 : decode cX12_archer 66 = .ok (.iload_n 1, 1) := by decide +kernel
theorem dX12_archer_67 : decode cX12_archer 67 = .ok (.iadd, 1) := by decide +kernel
theorem dX12_archer_68 : decode cX12_archer 68 = .ok (.iaload, 1) := by decide +kernel
theorem dX12_archer_69 : decode cX12_archer 69 = .ok (.ireturn, 1) := by decide +kernel
theorem dX12_archer_70 : decode cX12_archer 70 = .ok (.aload_n 0, 1) := by decide +kernel
theorem dX12_archer_71 : decode cX12_archer 71 = .ok (.iload_n 1, 1) := by decide +kernel
theorem dX12_archer_72 : decode cX12_archer 72 = .ok (.invokevirtual 317, 3) := by decide +kernel
theorem dX12_archer_75 : decode cX12_archer 75 = .ok (.ireturn, 1) := by decide +kernel
theorem dX12_archer_76 : decode cX12_archer 76 = .ok (.aload_n 0, 1) := by decide +kernel
theorem dX12_archer_77 : decode cX12_archer 77 = .ok (.iload_n 1, 1) := by decide +kernel
theorem dX12_archer_78 : decode cX12_archer 78 = .ok (.invokevirtual 320, 3) := by decide +kernel
theorem dX12_archer_81 : decode cX12_archer 81 = .ok (.ireturn, 1) := by decide +kernel
theorem dX12_archer_82 : decode cX12_archer 82 = .ok (.iconst (-1), 1) := by decide +kernel
theorem dX12_archer_83 : decode cX12_archer 83 = .ok (.ireturn, 1) := by decide +kernel
theorem dX12_breath_0 : decode cX12_breath 0 = .ok (.aload_n 0, 1) := by decide +kernel
theorem dX12_breath_1 : decode cX12_breath 1 = .ok (.invokevirtual 294, 3) := by decide +kernel
theorem dX12_breath_4 : decode cX12_breath 4 = .ok (.ifCond .eq 15, 3) := by decide +kernel
theorem dX12_breath_7 : decode cX12_breath 7 = .ok (.iload_n 1, 1) := by decide +kernel
theorem dX12_breath_8 : decode cX12_breath 8 = .ok (.i2l, 1) := by decide +kernel
theorem dX12_breath_9 : decode cX12_breath 9 = .ok (.lconst 1, 1) := by decide +kernel
theorem dX12_breath_10 : decode cX12_breath 10 = .ok (.ldc2_w 366, 3) := by decide +kernel
theorem dX12_breath_13 : decode cX12_breath 13 = .ok (.invokestatic 127, 3) := by decide +kernel
theorem dX12_breath_16 : decode cX12_breath 16 = .ok (.ifCond .ne 5, 3) := by decide +kernel
theorem dX12_breath_19 : decode cX12_breath 19 = .ok (.iconst (-1), 1) := by decide +kernel
theorem dX12_breath_20 : decode cX12_breath 20 = .ok (.ireturn, 1) := by decide +kernel
theorem dX12_breath_21 : decode cX12_breath 21 = .ok (.aload_n 0, 1) := by decide +kernel
theorem dX12_breath_22 : decode cX12_breath 22 = .ok (.invokevirtual 363, 3) := by decide +kernel
theorem dX12_breath_25 : decode cX12_breath 25 = .ok (.aload_n 0, 1) := by decide +kernel
theorem dX12_breath_26 : decode cX12_breath 26 = .ok (.getfield 39, 3) := by decide +kernel
theorem dX12_breath_29 : decode cX12_breath 29 = .ok (.bipush 11, 2) := by decide +kernel
theorem dX12_breath_31 : decode cX12_breath 31 = .ok (.dup2, 1) := by decide +kernel
theorem dX12_breath_32 : decode cX12_breath 32 = .ok (.iaload, 1) := by decide +kernel
theorem dX12_breath_33 : decode cX12_breath 33 = .ok (.iload_n 1, 1) := by decide +kernel
theorem dX12_breath_34 : decode cX12_breath 34 = .ok (.iadd, 1) := by decide +kernel
theorem dX12_breath_35 : decode cX12_breath 35 = .ok (.iastore, 1) := by decide +kernel
theorem dX12_breath_36 : decode cX12_breath 36 = .ok (.aload_n 0, 1) := by decide +kernel
theorem dX12_breath_37 : decode cX12_breath 37 = .ok (.getfield 39, 3) := by decide +kernel
theorem dX12_breath_40 : decode cX12_breath 40 = .ok (.bipush 11, 2) := by decide +kernel
theorem dX12_breath_42 : decode cX12_breath 42 = .ok (.iaload, 1) := by decide +kernel
theorem dX12_breath_43 : decode cX12_breath 43 = .ok (.ireturn, 1) := by decide +kernel
theorem dX12_isRing_0 : decode cX12_isRing 0 = .ok (.iload_n 1, 1) := by decide +kernel
theorem dX12_isRing_1 : decode cX12_isRing 1 = .ok (.ifCond .lt 17, 3) := by decide +kernel
theorem dX12_isRing_4 : decode cX12_isRing 4 = .ok (.iload_n 1, 1) := by decide +kernel
theorem dX12_isRing_5 : decode cX12_isRing 5 = .ok (.aload_n 0, 1) := by decide +kernel
theorem dX12_isRing_6 : decode cX12_isRing 6 = .ok (.getfield 39, 3) := by decide +kernel
theorem dX12_isRing_9 : decode cX12_isRing 9 = .ok (.iconst 4, 1) := by decide +kernel
theorem dX12_isRing_10 : decode cX12_isRing 10 = .ok (.iaload, 1) := by decide +kernel
theorem dX12_isRing_11 : decode cX12_isRing 11 = .ok (.if_icmp .ge 7, 3) := by decide +kernel
theorem dX12_isRing_14 : decode cX12_isRing 14 = .ok (.iconst 1, 1) := by decide +kernel
theorem dX12_isRing_15 : decode cX12_isRing 15 = .ok (.goto 4, 3) := by decide +kernel
theorem dX12_isRing_18 : decode cX12_isRing 18 = .ok (.iconst 0, 1) := by decide +kernel
theorem dX12_isRing_19 : decode cX12_isRing 19 = .ok (.ireturn, 1) := by decide +kernel
theorem dX12_isRule_0 : decode cX12_isRule 0 = .ok (.iload_n 1, 1) := by decide +kernel
theorem dX12_isRule_1 : decode cX12_isRule 1 = .ok (.ifCond .lt 15, 3) := by decide +kernel
theorem dX12_isRule_4 : decode cX12_isRule 4 = .ok (.iload_n 1, 1) := by decide +kernel
theorem dX12_isRule_5 : decode cX12_isRule 5 = .ok (.aload_n 0, 1) := by decide +kernel
theorem dX12_isRule_6 : decode cX12_isRule 6 = .ok (.getfield 267, 3) := by decide +kernel
theorem dX12_isRule_9 : decode cX12_isRule 9 = .ok (.if_icmp .ge 7, 3) := by decide +kernel
theorem dX12_isRule_12 : decode cX12_isRule 12 = .ok (.iconst 1, 1) := by decide +kernel
theorem dX12_isRule_13 : decode cX12_isRule 13 = .ok (.goto 4, 3) := by decide +kernel
theorem dX12_isRule_16 : decode cX12_isRule 16 = .ok (.iconst 0, 1) := by decide +kernel
theorem dX12_isRule_17 : decode cX12_isRule 17 = .ok (.ireturn, 1) := by decide +kernel
theorem dX1_hasRing_0 : decode cX1_hasRing 0 = .ok (.iload_n 1, 1) := by decide +kernel
theorem dX1_hasRing_1 : decode cX1_hasRing 1 = .ok (.iconst 0, 1) := by decide +kernel
theorem dX1_hasRing_2 : decode cX1_hasRing 2 = .ok (.aload_n 0, 1) := by decide +kernel
theorem dX1_hasRing_3 : decode cX1_hasRing 3 = .ok (.getfield 11, 3) := by decide +kernel
theorem dX1_hasRing_6 : decode cX1_hasRing 6 = .ok (.iconst 3, 1) := by decide +kernel
theorem dX1_hasRing_7 : decode cX1_hasRing 7 = .ok (.iaload, 1) := by decide +kernel
theorem dX1_hasRing_8 : decode cX1_hasRing 8 = .ok (.iconst 1, 1) := by decide +kernel
theorem dX1_hasRing_9 : decode cX1_hasRing 9 = .ok (.isub, 1) := by decide +kernel
theorem dX1_hasRing_10 : decode cX1_hasRing 10 = .ok (.invokestatic 27, 3) := by decide +kernel
theorem dX1_hasRing_13 : decode cX1_hasRing 13 = .ok (.ireturn, 1) := by decide +kernel
theorem dX10_advance_0 : decode cX10_advance 0 = .ok (.aload_n 0, 1) := by decide +kernel
theorem dX10_advance_1 : decode cX10_advance 1 = .ok (.getfield 31, 3) := by decide +kernel
theorem dX10_advance_4 : decode cX10_advance 4 = .ok (.iconst 1, 1) := by decide +kernel
theorem dX10_advance_5 : decode cX10_advance 5 = .ok (.iadd, 1) := by decide +kernel
theorem dX10_advance_6 : decode cX10_advance 6 = .ok (.aload_n 0, 1) := by decide +kernel
theorem dX10_advance_7 : decode cX10_advance 7 = .ok (.getfield 28, 3) := by decide +kernel
theorem dX10_advance_10 : decode cX10_advance 10 = .ok (.if_icmp .ge 52, 3) := by decide +kernel
theorem dX10_advance_13 : decode cX10_advance 13 = .ok (.aload_n 0, 1) := by decide +kernel
theorem dX10_advance_14 : decode cX10_advance 14 = .ok (.dup, 1) := by decide +kernel
theorem dX10_advance_15 : decode cX10_advance 15 = .ok (.getfield 31, 3) := by decide +kernel
theorem dX10_advance_18 : decode cX10_advance 18 = .ok (.iconst 1, 1) := by decide +kernel
theorem dX10_advance_19 : decode cX10_advance 19 = .ok (.iadd, 1) := by decide +kernel
theorem dX10_advance_20 : decode cX10_advance 20 = .ok (.putfield 31, 3) := by decide +kernel
theorem dX10_advance_23 : decode cX10_advance 23 = .ok (.aload_n 0, 1) := by decide +kernel
theorem dX10_advance_24 : decode cX10_advance 24 = .ok (.aload_n 0, 1) := by decide +kernel
theorem dX10_advance_25 : decode cX10_advance 25 = .ok (.getfield 19, 3) := by decide +kernel
theorem dX10_advance_28 : decode cX10_advance 28 = .ok (.aload_n 0, 1) := by decide +kernel
theorem dX10_advance_29 : decode cX10_advance 29 = .ok (.getfield 31, 3) := by decide +kernel
theorem dX10_advance_32 : decode cX10_advance 32 = .ok (.iaload, 1) := by decide +kernel
theorem dX10_advance_33 : decode cX10_advance 33 = .ok (.putfield 34, 3) := by decide +kernel
theorem dX10_advance_36 : decode cX10_advance 36 = .ok (.aload_n 0, 1) := by decide +kernel
theorem dX10_advance_37 : decode cX10_advance 37 = .ok (.aload_n 0, 1) := by decide +kernel
theorem dX10_advance_38 : decode cX10_advance 38 = .ok (.getfield 22, 3) := by decide +kernel
theorem dX10_advance_41 : decode cX10_advance 41 = .ok (.aload_n 0, 1) := by decide +kernel
theorem dX10_advance_42 : decode cX10_advance 42 = .ok (.getfield 31, 3) := by decide +kernel
theorem dX10_advance_45 : decode cX10_advance 45 = .ok (.iaload, 1) := by decide +kernel
theorem dX10_advance_46 : decode cX10_advance 46 = .ok (.putfield 37, 3) := by decide +kernel
theorem dX10_advance_49 : decode cX10_advance 49 = .ok (.aload_n 0, 1) := by decide +kernel
theorem dX10_advance_50 : decode cX10_advance 50 = .ok (.aload_n 0, 1) := by decide +kernel
theorem dX10_advance_51 : decode cX10_advance 51 = .ok (.getfield 25, 3) := by decide +kernel
theorem dX10_advance_54 : decode cX10_advance 54 = .ok (.aload_n 0, 1) := by decide +kernel
theorem dX10_advance_55 : decode cX10_advance 55 = .ok (.getfield 31, 3) := by decide +kernel
theorem dX10_advance_58 : decode cX10_advance 58 = .ok (.iaload, 1) := by decide +kernel
theorem dX10_advance_59 : decode cX10_advance 59 = .ok (.putfield 40, 3) := by decide +kernel
theorem dX10_advance_62 : decode cX10_advance 62 = .ok (.return_, 1) := by decide +kernel
theorem dX10_hasRoom_0 : decode cX10_hasRoom 0 = .ok (.aload_n 0, 1) := by decide +kernel
theorem dX10_hasRoom_1 : decode cX10_hasRoom 1 = .ok (.getfield 15, 3) := by decide +kernel
theorem dX10_hasRoom_4 : decode cX10_hasRoom 4 = .ok (.iload_n 1, 1) := by decide +kernel
theorem dX10_hasRoom_5 : decode cX10_hasRoom 5 = .ok (.iadd, 1) := by decide +kernel
theorem dX10_hasRoom_6 : decode cX10_hasRoom 6 = .ok (.sipush 400, 3) := by decide +kernel
theorem dX10_hasRoom_9 : decode cX10_hasRoom 9 = .ok (.if_icmp .gt 7, 3) := by decide +kernel
theorem dX10_hasRoom_12 : decode cX10_hasRoom 12 = .ok (.iconst 1, 1) := by decide +kernel
theorem dX10_hasRoom_13 : decode cX10_hasRoom 13 = .ok (.goto 4, 3) := by decide +kernel
theorem dX10_hasRoom_16 : decode cX10_hasRoom 16 = .ok (.iconst 0, 1) := by decide +kernel
theorem dX10_hasRoom_17 : decode cX10_hasRoom 17 = .ok (.ireturn, 1) := by decide +kernel
theorem dX11_bestAim_0 : decode cX11_bestAim 0 = .ok (.aload_n 0, 1) := by decide +kernel
theorem dX11_bestAim_1 : decode cX11_bestAim 1 = .ok (.getfield 43, 3) := by decide +kernel
theorem dX11_bestAim_4 : decode cX11_bestAim 4 = .ok (.getfield 111, 3) := by decide +kernel
theorem dX11_bestAim_7 : decode cX11_bestAim 7 = .ok (.astore_n 3, 1) := by decide +kernel
theorem dX11_bestAim_8 : decode cX11_bestAim 8 = .ok (.aload_n 3, 1) := by decide +kernel
theorem dX11_bestAim_9 : decode cX11_bestAim 9 = .ok (.iload_n 1, 1) := by decide +kernel
theorem dX11_bestAim_10 : decode cX11_bestAim 10 = .ok (.invokevirtual 139, 3) := by decide +kernel
theorem dX11_bestAim_13 : decode cX11_bestAim 13 = .ok (.ifCond .eq 12, 3) := by decide +kernel
theorem dX11_bestAim_16 : decode cX11_bestAim 16 = .ok (.iload_n 2, 1) := by decide +kernel
theorem dX11_bestAim_17 : decode cX11_bestAim 17 = .ok (.iconst 0, 1) := by decide +kernel
theorem dX11_bestAim_18 : decode cX11_bestAim 18 = .ok (.iconst 1, 1) := by decide +kernel
theorem dX11_bestAim_19 : decode cX11_bestAim 19 = .ok (.invokestatic 90, 3) := by decide +kernel
theorem dX11_bestAim_22 : decode cX11_bestAim 22 = .ok (.ifCond .ne 6, 3) := by decide +kernel
theorem dX11_bestAim_25 : decode cX11_bestAim 25 = .ok (.bipush (-2), 2) := by decide +kernel
theorem dX11_bestAim_27 : decode cX11_bestAim 27 = .ok (.ireturn, 1) := by decide +kernel
theorem dX11_bestAim_28 : decode cX11_bestAim 28 = .ok (.aload_n 3, 1) := by decide +kernel
theorem dX11_bestAim_29 : decode cX11_bestAim 29 = .ok (.getfield 124, 3) := by decide +kernel
theorem dX11_bestAim_32 : decode cX11_bestAim 32 = .ok (.bipush 38, 2) := by decide +kernel
theorem dX11_bestAim_34 : decode cX11_bestAim 34 = .ok (.iload_n 1, 1) := by decide +kernel
theorem dX11_bestAim_35 : decode cX11_bestAim 35 = .ok (.iadd, 1) := by decide +kernel
theorem dX11_bestAim_36 : decode cX11_bestAim 36 = .ok (.iaload, 1) := by decide +kernel
theorem dX11_bestAim_37 : decode cX11_bestAim 37 = .ok (.istore 4, 2) := by decide +kernel
theorem dX11_bestAim_39 : decode cX11_bestAim 39 = .ok (.aload_n 3, 1) := by decide +kernel
theorem dX11_bestAim_40 : decode cX11_bestAim 40 = .ok (.getfield 124, 3) := by decide +kernel
theorem dX11_bestAim_43 : decode cX11_bestAim 43 = .ok (.bipush 53, 2) := by decide +kernel
theorem dX11_bestAim_45 : decode cX11_bestAim 45 = .ok (.iload_n 1, 1) := by decide +kernel
theorem dX11_bestAim_46 : decode cX11_bestAim 46 = .ok (.iadd, 1) := by decide +kernel
theorem dX11_bestAim_47 : decode cX11_bestAim 47 = .ok (.iaload, 1) := by decide +kernel
theorem dX11_bestAim_48 : decode cX11_bestAim 48 = .ok (.aload_n 3, 1) := by decide +kernel
theorem dX11_bestAim_49 : decode cX11_bestAim 49 = .ok (.getfield 124, 3) := by decide +kernel
theorem dX11_bestAim_52 : decode cX11_bestAim 52 = .ok (.bipush 26, 2) := by decide +kernel
theorem dX11_bestAim_54 : decode cX11_bestAim 54 = .ok (.iload 4, 2) := by decide +kernel
theorem dX11_bestAim_56 : decode cX11_bestAim 56 = .ok (.iadd, 1) := by decide +kernel
theorem dX11_bestAim_57 : decode cX11_bestAim 57 = .ok (.iaload, 1) := by decide +kernel
theorem dX11_bestAim_58 : decode cX11_bestAim 58 = .ok (.invokestatic 178, 3) := by decide +kernel
theorem dX11_bestAim_61 : decode cX11_bestAim 61 = .ok (.istore 5, 2) := by decide +kernel
theorem dX11_bestAim_63 : decode cX11_bestAim 63 = .ok (.aload_n 3, 1) := by decide +kernel
theorem dX11_bestAim_64 : decode cX11_bestAim 64 = .ok (.iload_n 1, 1) := by decide +kernel
theorem dX11_bestAim_65 : decode cX11_bestAim 65 = .ok (.aload_n 3, 1) := by decide +kernel
theorem dX11_bestAim_66 : decode cX11_bestAim 66 = .ok (.getfield 124, 3) := by decide +kernel
theorem dX11_bestAim_69 : decode cX11_bestAim 69 = .ok (.bipush 6, 2) := by decide +kernel
theorem dX11_bestAim_71 : decode cX11_bestAim 71 = .ok (.iaload, 1) := by decide +kernel
theorem dX11_bestAim_72 : decode cX11_bestAim 72 = .ok (.invokevirtual 197, 3) := by decide +kernel
theorem dX11_bestAim_75 : decode cX11_bestAim 75 = .ok (.istore 6, 2) := by decide +kernel
theorem dX11_bestAim_77 : decode cX11_bestAim 77 = .ok (.iload 6, 2) := by decide +kernel
theorem dX11_bestAim_79 : decode cX11_bestAim 79 = .ok (.iconst (-1), 1) := by decide +kernel
theorem dX11_bestAim_80 : decode cX11_bestAim 80 = .ok (.if_icmp .eq 9, 3) := by decide +kernel
theorem dX11_bestAim_83 : decode cX11_bestAim 83 = .ok (.iload 5, 2) := by decide +kernel
theorem dX11_bestAim_85 : decode cX11_bestAim 85 = .ok (.iconst 1, 1) := by decide +kernel
theorem dX11_bestAim_86 : decode cX11_bestAim 86 = .ok (.if_icmp .ge 13, 3) := by decide +kernel
theorem dX11_bestAim_89 : decode cX11_bestAim 89 = .ok (.iload_n 2, 1) := by decide +kernel
theorem dX11_bestAim_90 : decode cX11_bestAim 90 = .ok (.ifCond .ne 7, 3) := by decide +kernel
theorem dX11_bestAim_93 : decode cX11_bestAim 93 = .ok (.iconst (-1), 1) := by decide +kernel
theorem dX11_bestAim_94 : decode cX11_bestAim 94 = .ok (.goto 4, 3) := by decide +kernel
theorem dX11_bestAim_97 : decode cX11_bestAim 97 = .ok (.iconst 0, 1) := by decide +kernel
theorem dX11_bestAim_98 : decode cX11_bestAim 98 = .ok (.ireturn, 1) := by decide +kernel
theorem dX11_bestAim_99 : decode cX11_bestAim 99 = .ok (.iload_n 2, 1) := by decide +kernel
theorem dX11_bestAim_100 : decode cX11_bestAim 100 = .ok (.ifCond .ne 8, 3) := by decide +kernel
theorem dX11_bestAim_103 : decode cX11_bestAim 103 = .ok (.iload 6, 2) := by decide +kernel
theorem dX11_bestAim_105 : decode cX11_bestAim 105 = .ok (.goto 5, 3) := by decide +kernel
theorem dX11_bestAim_108 : decode cX11_bestAim 108 = .ok (.iload 5, 2) := by decide +kernel
theorem dX11_bestAim_110 : decode cX11_bestAim 110 = .ok (.ireturn, 1) := by decide +kernel
theorem dX11_skilled_0 : decode cX11_skilled 0 = .ok (.aload_n 0, 1) := by decide +kernel
theorem dX11_skilled_1 : decode cX11_skilled 1 = .ok (.getfield 43, 3) := by decide +kernel
theorem dX11_skilled_4 : decode cX11_skilled 4 = .ok (.getfield 111, 3) := by decide +kernel
theorem dX11_skilled_7 : decode cX11_skilled 7 = .ok (.iload_n 1, 1) := by decide +kernel
theorem dX11_skilled_8 : decode cX11_skilled 8 = .ok (.invokevirtual 139, 3) := by decide +kernel
theorem dX11_skilled_11 : decode cX11_skilled 11 = .ok (.ifCond .ne 5, 3) := by decide +kernel
theorem dX11_skilled_14 : decode cX11_skilled 14 = .ok (.iconst (-1), 1) := by decide +kernel
theorem dX11_skilled_15 : decode cX11_skilled 15 = .ok (.ireturn, 1) := by decide +kernel
theorem dX11_skilled_16 : decode cX11_skilled 16 = .ok (.aload_n 0, 1) := by decide +kernel
theorem dX11_skilled_17 : decode cX11_skilled 17 = .ok (.getfield 75, 3) := by decide +kernel
theorem dX11_skilled_20 : decode cX11_skilled 20 = .ok (.aload_n 0, 1) := by decide +kernel
theorem dX11_skilled_21 : decode cX11_skilled 21 = .ok (.getfield 61, 3) := by decide +kernel
theorem dX11_skilled_24 : decode cX11_skilled 24 = .ok (.aload_n 0, 1) := by decide +kernel
theorem dX11_skilled_25 : decode cX11_skilled 25 = .ok (.getfield 43, 3) := by decide +kernel
theorem dX11_skilled_28 : decode cX11_skilled 28 = .ok (.aload_n 0, 1) := by decide +kernel
theorem dX11_skilled_29 : decode cX11_skilled 29 = .ok (.invokevirtual 159, 3) := by decide +kernel
theorem dX11_skilled_32 : decode cX11_skilled 32 = .ok (.bipush 43, 2) := by decide +kernel
theorem dX11_skilled_34 : decode cX11_skilled 34 = .ok (.iload_n 1, 1) := by decide +kernel
theorem dX11_skilled_35 : decode cX11_skilled 35 = .ok (.iadd, 1) := by decide +kernel
theorem dX11_skilled_36 : decode cX11_skilled 36 = .ok (.iconst 1, 1) := by decide +kernel
theorem dX11_skilled_37 : decode cX11_skilled 37 = .ok (.bipush 9, 2) := by decide +kernel
theorem dX11_skilled_39 : decode cX11_skilled 39 = .ok (.invokevirtual 239, 3) := by decide +kernel
theorem dX11_skilled_42 : decode cX11_skilled 42 = .ok (.ireturn, 1) := by decide +kernel
theorem dX12_bestAim_0 : decode cX12_bestAim 0 = .ok (.aload_n 0, 1) := by decide +kernel
theorem dX12_bestAim_1 : decode cX12_bestAim 1 = .ok (.iload_n 1, 1) := by decide +kernel
theorem dX12_bestAim_2 : decode cX12_bestAim 2 = .ok (.invokevirtual 314, 3) := by decide +kernel
theorem dX12_bestAim_5 : decode cX12_bestAim 5 = .ok (.ifCond .eq 13, 3) := by decide +kernel
theorem dX12_bestAim_8 : decode cX12_bestAim 8 = .ok (.iload_n 2, 1) := by decide +kernel
theorem dX12_bestAim_9 : decode cX12_bestAim 9 = .ok (.i2l, 1) := by decide +kernel
theorem dX12_bestAim_10 : decode cX12_bestAim 10 = .ok (.lconst 0, 1) := by decide +kernel
theorem dX12_bestAim_11 : decode cX12_bestAim 11 = .ok (.lconst 1, 1) := by decide +kernel
theorem dX12_bestAim_12 : decode cX12_bestAim 12 = .ok (.invokestatic 127, 3) := by decide +kernel
theorem dX12_bestAim_15 : decode cX12_bestAim 15 = .ok (.ifCond .ne 6, 3) := by decide +kernel
theorem dX12_bestAim_18 : decode cX12_bestAim 18 = .ok (.bipush (-2), 2) := by decide +kernel
theorem dX12_bestAim_20 : decode cX12_bestAim 20 = .ok (.ireturn, 1) := by decide +kernel
theorem dX12_bestAim_21 : decode cX12_bestAim 21 = .ok (.iconst (-1), 1) := by decide +kernel
theorem dX12_bestAim_22 : decode cX12_bestAim 22 = .ok (.istore_n 3, 1) := by decide +kernel
theorem dX12_bestAim_23 : decode cX12_bestAim 23 = .ok (.iconst 0, 1) := by decide +kernel
theorem dX12_bestAim_24 : decode cX12_bestAim 24 = .ok (.istore 4, 2) := by decide +kernel
theorem dX12_bestAim_26 : decode cX12_bestAim 26 = .ok (.iconst 0, 1) := by decide +kernel
theorem dX12_bestAim_27 : decode cX12_bestAim 27 = .ok (.istore 5, 2) := by decide +kernel
theorem dX12_bestAim_29 : decode cX12_bestAim 29 = .ok (.iload 5, 2) := by decide +kernel
theorem dX12_bestAim_31 : decode cX12_bestAim 31 = .ok (.aload_n 0, 1) := by decide +kernel
theorem dX12_bestAim_32 : decode cX12_bestAim 32 = .ok (.getfield 39, 3) := by decide +kernel
theorem dX12_bestAim_35 : decode cX12_bestAim 35 = .ok (.iconst 4, 1) := by decide +kernel
theorem dX12_bestAim_36 : decode cX12_bestAim 36 = .ok (.iaload, 1) := by decide +kernel
theorem dX12_bestAim_37 : decode cX12_bestAim 37 = .ok (.if_icmp .ge 36, 3) := by decide +kernel
theorem dX12_bestAim_40 : decode cX12_bestAim 40 = .ok (.aload_n 0, 1) := by decide +kernel
theorem dX12_bestAim_41 : decode cX12_bestAim 41 = .ok (.iload_n 1, 1) := by decide +kernel
theorem dX12_bestAim_42 : decode cX12_bestAim 42 = .ok (.iload 5, 2) := by decide +kernel
theorem dX12_bestAim_44 : decode cX12_bestAim 44 = .ok (.invokevirtual 387, 3) := by decide +kernel
theorem dX12_bestAim_47 : decode cX12_bestAim 47 = .ok (.iload 4, 2) := by decide +kernel
theorem dX12_bestAim_49 : decode cX12_bestAim 49 = .ok (.if_icmp .gt 6, 3) := by decide +kernel
theorem dX12_bestAim_52 : decode cX12_bestAim 52 = .ok (.goto 15, 3) := by decide +kernel
theorem dX12_bestAim_55 : decode cX12_bestAim 55 = .ok (.iload 5, 2) := by decide +kernel
theorem dX12_bestAim_57 : decode cX12_bestAim 57 = .ok (.istore_n 3, 1) := by decide +kernel
theorem dX12_bestAim_58 : decode cX12_bestAim 58 = .ok (.aload_n 0, 1) := by decide +kernel
theorem dX12_bestAim_59 : decode cX12_bestAim 59 = .ok (.iload_n 1, 1) := by decide +kernel
theorem dX12_bestAim_60 : decode cX12_bestAim 60 = .ok (.iload 5, 2) := by decide +kernel
theorem dX12_bestAim_62 : decode cX12_bestAim 62 = .ok (.invokevirtual 387, 3) := by decide +kernel
theorem dX12_bestAim_65 : decode cX12_bestAim 65 = .ok (.istore 4, 2) := by decide +kernel
theorem dX12_bestAim_67 : decode cX12_bestAim 67 = .ok (.iinc 5 1, 3) := by decide +kernel
theorem dX12_bestAim_70 : decode cX12_bestAim 70 = .ok (.goto (-41), 3) := by decide +kernel
theorem dX12_bestAim_73 : decode cX12_bestAim 73 = .ok (.iload_n 2, 1) := by decide +kernel
theorem dX12_bestAim_74 : decode cX12_bestAim 74 = .ok (.ifCond .ne 7, 3) := by decide +kernel
end
section
theorem dX12_bestAim_77 : decode cX12_bestAim 77 = .ok (.iload_n 3, 1) := by decide +kernel
theorem dX12_bestAim_78 : decode cX12_bestAim 78 = .ok (.goto 5, 3) := by decide +kernel
theorem dX12_bestAim_81 : decode cX12_bestAim 81 = .ok (.iload 4, 2) := by decide +kernel
theorem dX12_bestAim_83 : decode cX12_bestAim 83 = .ok (.ireturn, 1) := by decide +kernel
theorem dX12_isGreen_0 : decode cX12_isGreen 0 = .ok (.aload_n 0, 1) := by decide +kernel
theorem dX12_isGreen_1 : decode cX12_isGreen 1 = .ok (.getfield 39, 3) := by decide +kernel
theorem dX12_isGreen_4 : decode cX12_isGreen 4 = .ok (.iconst 0, 1) := by decide +kernel
theorem dX12_isGreen_5 : decode cX12_isGreen 5 = .ok (.iaload, 1) := by decide +kernel
theorem dX12_isGreen_6 : decode cX12_isGreen 6 = .ok (.iconst 1, 1) := by decide +kernel
theorem dX12_isGreen_7 : decode cX12_isGreen 7 = .ok (.if_icmp .ne 7, 3) := by decide +kernel
theorem dX12_isGreen_10 : decode cX12_isGreen 10 = .ok (.iconst 1, 1) := by decide +kernel
theorem dX12_isGreen_11 : decode cX12_isGreen 11 = .ok (.goto 4, 3) := by decide +kernel
theorem dX12_isGreen_14 : decode cX12_isGreen 14 = .ok (.iconst 0, 1) := by decide +kernel
theorem dX12_isGreen_15 : decode cX12_isGreen 15 = .ok (.ireturn, 1) := by decide +kernel
theorem dX12_skilled_0 : decode cX12_skilled 0 = .ok (.aload_n 0, 1) := by decide +kernel
theorem dX12_skilled_1 : decode cX12_skilled 1 = .ok (.iload_n 1, 1) := by decide +kernel
theorem dX12_skilled_2 : decode cX12_skilled 2 = .ok (.invokevirtual 314, 3) := by decide +kernel
theorem dX12_skilled_5 : decode cX12_skilled 5 = .ok (.ifCond .eq 19, 3) := by decide +kernel
theorem dX12_skilled_8 : decode cX12_skilled 8 = .ok (.aload_n 0, 1) := by decide +kernel
theorem dX12_skilled_9 : decode cX12_skilled 9 = .ok (.bipush 74, 2) := by decide +kernel
theorem dX12_skilled_11 : decode cX12_skilled 11 = .ok (.iconst 2, 1) := by decide +kernel
theorem dX12_skilled_12 : decode cX12_skilled 12 = .ok (.iload_n 1, 1) := by decide +kernel
theorem dX12_skilled_13 : decode cX12_skilled 13 = .ok (.imul, 1) := by decide +kernel
theorem dX12_skilled_14 : decode cX12_skilled 14 = .ok (.iadd, 1) := by decide +kernel
theorem dX12_skilled_15 : decode cX12_skilled 15 = .ok (.iconst 1, 1) := by decide +kernel
theorem dX12_skilled_16 : decode cX12_skilled 16 = .ok (.bipush 9, 2) := by decide +kernel
theorem dX12_skilled_18 : decode cX12_skilled 18 = .ok (.invokevirtual 438, 3) := by decide +kernel
theorem dX12_skilled_21 : decode cX12_skilled 21 = .ok (.goto 4, 3) := by decide +kernel
theorem dX12_skilled_24 : decode cX12_skilled 24 = .ok (.iconst (-1), 1) := by decide +kernel
theorem dX12_skilled_25 : decode cX12_skilled 25 = .ok (.ireturn, 1) := by decide +kernel
theorem dX12_sumOver_0 : decode cX12_sumOver 0 = .ok (.iconst 0, 1) := by decide +kernel
theorem dX12_sumOver_1 : decode cX12_sumOver 1 = .ok (.istore_n 2, 1) := by decide +kernel
theorem dX12_sumOver_2 : decode cX12_sumOver 2 = .ok (.iconst 0, 1) := by decide +kernel
theorem dX12_sumOver_3 : decode cX12_sumOver 3 = .ok (.istore_n 3, 1) := by decide +kernel
theorem dX12_sumOver_4 : decode cX12_sumOver 4 = .ok (.iload_n 3, 1) := by decide +kernel
theorem dX12_sumOver_5 : decode cX12_sumOver 5 = .ok (.aload_n 0, 1) := by decide +kernel
theorem dX12_sumOver_6 : decode cX12_sumOver 6 = .ok (.getfield 39, 3) := by decide +kernel
theorem dX12_sumOver_9 : decode cX12_sumOver 9 = .ok (.iconst 5, 1) := by decide +kernel
theorem dX12_sumOver_10 : decode cX12_sumOver 10 = .ok (.iaload, 1) := by decide +kernel
theorem dX12_sumOver_11 : decode cX12_sumOver 11 = .ok (.if_icmp .ge 25, 3) := by decide +kernel
theorem dX12_sumOver_14 : decode cX12_sumOver 14 = .ok (.iload_n 2, 1) := by decide +kernel
theorem dX12_sumOver_15 : decode cX12_sumOver 15 = .ok (.aload_n 0, 1) := by decide +kernel
theorem dX12_sumOver_16 : decode cX12_sumOver 16 = .ok (.getfield 39, 3) := by decide +kernel
theorem dX12_sumOver_19 : decode cX12_sumOver 19 = .ok (.bipush 25, 2) := by decide +kernel
theorem dX12_sumOver_21 : decode cX12_sumOver 21 = .ok (.iconst 3, 1) := by decide +kernel
theorem dX12_sumOver_22 : decode cX12_sumOver 22 = .ok (.iload_n 3, 1) := by decide +kernel
theorem dX12_sumOver_23 : decode cX12_sumOver 23 = .ok (.imul, 1) := by decide +kernel
theorem dX12_sumOver_24 : decode cX12_sumOver 24 = .ok (.iadd, 1) := by decide +kernel
theorem dX12_sumOver_25 : decode cX12_sumOver 25 = .ok (.iload_n 1, 1) := by decide +kernel
theorem dX12_sumOver_26 : decode cX12_sumOver 26 = .ok (.iadd, 1) := by decide +kernel
theorem dX12_sumOver_27 : decode cX12_sumOver 27 = .ok (.iaload, 1) := by decide +kernel
theorem dX12_sumOver_28 : decode cX12_sumOver 28 = .ok (.iadd, 1) := by decide +kernel
theorem dX12_sumOver_29 : decode cX12_sumOver 29 = .ok (.istore_n 2, 1) := by decide +kernel
theorem dX12_sumOver_30 : decode cX12_sumOver 30 = .ok (.iinc 3 1, 3) := by decide +kernel
theorem dX12_sumOver_33 : decode cX12_sumOver 33 = .ok (.goto (-29), 3) := by decide +kernel
theorem dX12_sumOver_36 : decode cX12_sumOver 36 = .ok (.iload_n 2, 1) := by decide +kernel
theorem dX12_sumOver_37 : decode cX12_sumOver 37 = .ok (.ireturn, 1) := by decide +kernel
theorem dX1_copyFrom_0 : decode cX1_copyFrom 0 = .ok (.aload_n 1, 1) := by decide +kernel
theorem dX1_copyFrom_1 : decode cX1_copyFrom 1 = .ok (.getfield 11, 3) := by decide +kernel
theorem dX1_copyFrom_4 : decode cX1_copyFrom 4 = .ok (.iconst 0, 1) := by decide +kernel
theorem dX1_copyFrom_5 : decode cX1_copyFrom 5 = .ok (.aload_n 0, 1) := by decide +kernel
theorem dX1_copyFrom_6 : decode cX1_copyFrom 6 = .ok (.getfield 11, 3) := by decide +kernel
theorem dX1_copyFrom_9 : decode cX1_copyFrom 9 = .ok (.iconst 0, 1) := by decide +kernel
theorem dX1_copyFrom_10 : decode cX1_copyFrom 10 = .ok (.bipush 63, 2) := by decide +kernel
theorem dX1_copyFrom_12 : decode cX1_copyFrom 12 = .ok (.invokestatic 15, 3) := by decide +kernel
theorem dX1_copyFrom_15 : decode cX1_copyFrom 15 = .ok (.return_, 1) := by decide +kernel
theorem dX3_readFrom_0 : decode cX3_readFrom 0 = .ok (.aload_n 1, 1) := by decide +kernel
theorem dX3_readFrom_1 : decode cX3_readFrom 1 = .ok (.invokevirtual 18, 3) := by decide +kernel
theorem dX3_readFrom_4 : decode cX3_readFrom 4 = .ok (.aload_n 0, 1) := by decide +kernel
theorem dX3_readFrom_5 : decode cX3_readFrom 5 = .ok (.getfield 12, 3) := by decide +kernel
theorem dX3_readFrom_8 : decode cX3_readFrom 8 = .ok (.invokevirtual 23, 3) := by decide +kernel
theorem dX3_readFrom_11 : decode cX3_readFrom 11 = .ok (.iconst 0, 1) := by decide +kernel
theorem dX3_readFrom_12 : decode cX3_readFrom 12 = .ok (.istore_n 2, 1) := by decide +kernel
theorem dX3_readFrom_13 : decode cX3_readFrom 13 = .ok (.aload_n 0, 1) := by decide +kernel
theorem dX3_readFrom_14 : decode cX3_readFrom 14 = .ok (.aload_n 1, 1) := by decide +kernel
theorem dX3_readFrom_15 : decode cX3_readFrom 15 = .ok (.iload_n 2, 1) := by decide +kernel
theorem dX3_readFrom_16 : decode cX3_readFrom 16 = .ok (.invokevirtual 26, 3) := by decide +kernel
theorem dX3_readFrom_19 : decode cX3_readFrom 19 = .ok (.iinc 2 1, 3) := by decide +kernel
theorem dX3_readFrom_22 : decode cX3_readFrom 22 = .ok (.iload_n 2, 1) := by decide +kernel
theorem dX3_readFrom_23 : decode cX3_readFrom 23 = .ok (.sipush 400, 3) := by decide +kernel
theorem dX3_readFrom_26 : decode cX3_readFrom 26 = .ok (.if_icmp .gt 10, 3) := by decide +kernel
theorem dX3_readFrom_29 : decode cX3_readFrom 29 = .ok (.aload_n 1, 1) := by decide +kernel
theorem dX3_readFrom_30 : decode cX3_readFrom 30 = .ok (.invokevirtual 30, 3) := by decide +kernel
theorem dX3_readFrom_33 : decode cX3_readFrom 33 = .ok (.ifCond .ne (-20), 3) := by decide +kernel
theorem dX3_readFrom_36 : decode cX3_readFrom 36 = .ok (.aload_n 1, 1) := by decide +kernel
theorem dX3_readFrom_37 : decode cX3_readFrom 37 = .ok (.getfield 34, 3) := by decide +kernel
theorem dX3_readFrom_40 : decode cX3_readFrom 40 = .ok (.ifCond .ne 7, 3) := by decide +kernel
theorem dX3_readFrom_43 : decode cX3_readFrom 43 = .ok (.aload_n 0, 1) := by decide +kernel
theorem dX3_readFrom_44 : decode cX3_readFrom 44 = .ok (.invokevirtual 38, 3) := by decide +kernel
theorem dX3_readFrom_47 : decode cX3_readFrom 47 = .ok (.aload_n 1, 1) := by decide +kernel
theorem dX3_readFrom_48 : decode cX3_readFrom 48 = .ok (.getfield 34, 3) := by decide +kernel
theorem dX3_readFrom_51 : decode cX3_readFrom 51 = .ok (.ireturn, 1) := by decide +kernel
theorem dX4_copyFrom_0 : decode cX4_copyFrom 0 = .ok (.aload_n 0, 1) := by decide +kernel
theorem dX4_copyFrom_1 : decode cX4_copyFrom 1 = .ok (.getfield 12, 3) := by decide +kernel
theorem dX4_copyFrom_4 : decode cX4_copyFrom 4 = .ok (.aload_n 1, 1) := by decide +kernel
theorem dX4_copyFrom_5 : decode cX4_copyFrom 5 = .ok (.getfield 12, 3) := by decide +kernel
theorem dX4_copyFrom_8 : decode cX4_copyFrom 8 = .ok (.invokevirtual 39, 3) := by decide +kernel
theorem dX4_copyFrom_11 : decode cX4_copyFrom 11 = .ok (.aload_n 0, 1) := by decide +kernel
theorem dX4_copyFrom_12 : decode cX4_copyFrom 12 = .ok (.getfield 18, 3) := by decide +kernel
theorem dX4_copyFrom_15 : decode cX4_copyFrom 15 = .ok (.aload_n 1, 1) := by decide +kernel
theorem dX4_copyFrom_16 : decode cX4_copyFrom 16 = .ok (.getfield 18, 3) := by decide +kernel
theorem dX4_copyFrom_19 : decode cX4_copyFrom 19 = .ok (.invokevirtual 39, 3) := by decide +kernel
theorem dX4_copyFrom_22 : decode cX4_copyFrom 22 = .ok (.aload_n 0, 1) := by decide +kernel
theorem dX4_copyFrom_23 : decode cX4_copyFrom 23 = .ok (.getfield 24, 3) := by decide +kernel
theorem dX4_copyFrom_26 : decode cX4_copyFrom 26 = .ok (.aload_n 1, 1) := by decide +kernel
theorem dX4_copyFrom_27 : decode cX4_copyFrom 27 = .ok (.getfield 24, 3) := by decide +kernel
theorem dX4_copyFrom_30 : decode cX4_copyFrom 30 = .ok (.invokevirtual 43, 3) := by decide +kernel
theorem dX4_copyFrom_33 : decode cX4_copyFrom 33 = .ok (.aload_n 0, 1) := by decide +kernel
theorem dX4_copyFrom_34 : decode cX4_copyFrom 34 = .ok (.aload_n 1, 1) := by decide +kernel
theorem dX4_copyFrom_35 : decode cX4_copyFrom 35 = .ok (.getfield 28, 3) := by decide +kernel
theorem dX4_copyFrom_38 : decode cX4_copyFrom 38 = .ok (.putfield 28, 3) := by decide +kernel
theorem dX4_copyFrom_41 : decode cX4_copyFrom 41 = .ok (.aload_n 0, 1) := by decide +kernel
theorem dX4_copyFrom_42 : decode cX4_copyFrom 42 = .ok (.aload_n 1, 1) := by decide +kernel
theorem dX4_copyFrom_43 : decode cX4_copyFrom 43 = .ok (.getfield 32, 3) := by decide +kernel
theorem dX4_copyFrom_46 : decode cX4_copyFrom 46 = .ok (.putfield 32, 3) := by decide +kernel
theorem dX4_copyFrom_49 : decode cX4_copyFrom 49 = .ok (.return_, 1) := by decide +kernel
theorem dX5_copyFrom_0 : decode cX5_copyFrom 0 = .ok (.aload_n 1, 1) := by decide +kernel
theorem dX5_copyFrom_1 : decode cX5_copyFrom 1 = .ok (.getfield 11, 3) := by decide +kernel
theorem dX5_copyFrom_4 : decode cX5_copyFrom 4 = .ok (.iconst 0, 1) := by decide +kernel
theorem dX5_copyFrom_5 : decode cX5_copyFrom 5 = .ok (.aload_n 0, 1) := by decide +kernel
theorem dX5_copyFrom_6 : decode cX5_copyFrom 6 = .ok (.getfield 11, 3) := by decide +kernel
theorem dX5_copyFrom_9 : decode cX5_copyFrom 9 = .ok (.iconst 0, 1) := by decide +kernel
theorem dX5_copyFrom_10 : decode cX5_copyFrom 10 = .ok (.bipush 10, 2) := by decide +kernel
theorem dX5_copyFrom_12 : decode cX5_copyFrom 12 = .ok (.invokestatic 25, 3) := by decide +kernel
theorem dX5_copyFrom_15 : decode cX5_copyFrom 15 = .ok (.aload_n 1, 1) := by decide +kernel
theorem dX5_copyFrom_16 : decode cX5_copyFrom 16 = .ok (.getfield 15, 3) := by decide +kernel
theorem dX5_copyFrom_19 : decode cX5_copyFrom 19 = .ok (.iconst 0, 1) := by decide +kernel
theorem dX5_copyFrom_20 : decode cX5_copyFrom 20 = .ok (.aload_n 0, 1) := by decide +kernel
theorem dX5_copyFrom_21 : decode cX5_copyFrom 21 = .ok (.getfield 15, 3) := by decide +kernel
theorem dX5_copyFrom_24 : decode cX5_copyFrom 24 = .ok (.iconst 0, 1) := by decide +kernel
theorem dX5_copyFrom_25 : decode cX5_copyFrom 25 = .ok (.bipush 10, 2) := by decide +kernel
theorem dX5_copyFrom_27 : decode cX5_copyFrom 27 = .ok (.invokestatic 25, 3) := by decide +kernel
theorem dX5_copyFrom_30 : decode cX5_copyFrom 30 = .ok (.aload_n 1, 1) := by decide +kernel
theorem dX5_copyFrom_31 : decode cX5_copyFrom 31 = .ok (.getfield 18, 3) := by decide +kernel
theorem dX5_copyFrom_34 : decode cX5_copyFrom 34 = .ok (.iconst 0, 1) := by decide +kernel
theorem dX5_copyFrom_35 : decode cX5_copyFrom 35 = .ok (.aload_n 0, 1) := by decide +kernel
theorem dX5_copyFrom_36 : decode cX5_copyFrom 36 = .ok (.getfield 18, 3) := by decide +kernel
theorem dX5_copyFrom_39 : decode cX5_copyFrom 39 = .ok (.iconst 0, 1) := by decide +kernel
theorem dX5_copyFrom_40 : decode cX5_copyFrom 40 = .ok (.bipush 10, 2) := by decide +kernel
theorem dX5_copyFrom_42 : decode cX5_copyFrom 42 = .ok (.invokestatic 25, 3) := by decide +kernel
theorem dX5_copyFrom_45 : decode cX5_copyFrom 45 = .ok (.aload_n 0, 1) := by decide +kernel
theorem dX5_copyFrom_46 : decode cX5_copyFrom 46 = .ok (.aload_n 1, 1) := by decide +kernel
theorem dX5_copyFrom_47 : decode cX5_copyFrom 47 = .ok (.getfield 21, 3) := by decide +kernel
theorem dX5_copyFrom_50 : decode cX5_copyFrom 50 = .ok (.putfield 21, 3) := by decide +kernel
theorem dX5_copyFrom_53 : decode cX5_copyFrom 53 = .ok (.return_, 1) := by decide +kernel
theorem dX8_readFrom_0 : decode cX8_readFrom 0 = .ok (.aload_n 1, 1) := by decide +kernel
theorem dX8_readFrom_1 : decode cX8_readFrom 1 = .ok (.invokevirtual 24, 3) := by decide +kernel
theorem dX8_readFrom_4 : decode cX8_readFrom 4 = .ok (.aload_n 0, 1) := by decide +kernel
theorem dX8_readFrom_5 : decode cX8_readFrom 5 = .ok (.iconst 0, 1) := by decide +kernel
theorem dX8_readFrom_6 : decode cX8_readFrom 6 = .ok (.putfield 17, 3) := by decide +kernel
theorem dX8_readFrom_9 : decode cX8_readFrom 9 = .ok (.aload_n 0, 1) := by decide +kernel
theorem dX8_readFrom_10 : decode cX8_readFrom 10 = .ok (.iconst 0, 1) := by decide +kernel
theorem dX8_readFrom_11 : decode cX8_readFrom 11 = .ok (.putfield 21, 3) := by decide +kernel
theorem dX8_readFrom_14 : decode cX8_readFrom 14 = .ok (.iconst 0, 1) := by decide +kernel
theorem dX8_readFrom_15 : decode cX8_readFrom 15 = .ok (.istore_n 2, 1) := by decide +kernel
theorem dX8_readFrom_16 : decode cX8_readFrom 16 = .ok (.aload_n 0, 1) := by decide +kernel
theorem dX8_readFrom_17 : decode cX8_readFrom 17 = .ok (.aload_n 1, 1) := by decide +kernel
theorem dX8_readFrom_18 : decode cX8_readFrom 18 = .ok (.iload_n 2, 1) := by decide +kernel
theorem dX8_readFrom_19 : decode cX8_readFrom 19 = .ok (.invokevirtual 27, 3) := by decide +kernel
theorem dX8_readFrom_22 : decode cX8_readFrom 22 = .ok (.iinc 2 1, 3) := by decide +kernel
theorem dX8_readFrom_25 : decode cX8_readFrom 25 = .ok (.iload_n 2, 1) := by decide +kernel
theorem dX8_readFrom_26 : decode cX8_readFrom 26 = .ok (.sipush 400, 3) := by decide +kernel
theorem dX8_readFrom_29 : decode cX8_readFrom 29 = .ok (.if_icmp .gt 10, 3) := by decide +kernel
theorem dX8_readFrom_32 : decode cX8_readFrom 32 = .ok (.aload_n 1, 1) := by decide +kernel
theorem dX8_readFrom_33 : decode cX8_readFrom 33 = .ok (.invokevirtual 31, 3) := by decide +kernel
theorem dX8_readFrom_36 : decode cX8_readFrom 36 = .ok (.ifCond .ne (-20), 3) := by decide +kernel
theorem dX8_readFrom_39 : decode cX8_readFrom 39 = .ok (.aload_n 1, 1) := by decide +kernel
theorem dX8_readFrom_40 : decode cX8_readFrom 40 = .ok (.getfield 35, 3) := by decide +kernel
theorem dX8_readFrom_43 : decode cX8_readFrom 43 = .ok (.ireturn, 1) := by decide +kernel
theorem dX10_addBytes_0 : decode cX10_addBytes 0 = .ok (.bipush 24, 2) := by decide +kernel
theorem dX10_addBytes_2 : decode cX10_addBytes 2 = .ok (.istore_n 2, 1) := by decide +kernel
theorem dX10_addBytes_3 : decode cX10_addBytes 3 = .ok (.iload_n 2, 1) := by decide +kernel
theorem dX10_addBytes_4 : decode cX10_addBytes 4 = .ok (.ifCond .lt 45, 3) := by decide +kernel
theorem dX10_addBytes_7 : decode cX10_addBytes 7 = .ok (.aload_n 0, 1) := by decide +kernel
theorem dX10_addBytes_8 : decode cX10_addBytes 8 = .ok (.getfield 15, 3) := by decide +kernel
theorem dX10_addBytes_11 : decode cX10_addBytes 11 = .ok (.sipush 400, 3) := by decide +kernel
theorem dX10_addBytes_14 : decode cX10_addBytes 14 = .ok (.if_icmp .ge 35, 3) := by decide +kernel
theorem dX10_addBytes_17 : decode cX10_addBytes 17 = .ok (.aload_n 0, 1) := by decide +kernel
theorem dX10_addBytes_18 : decode cX10_addBytes 18 = .ok (.getfield 11, 3) := by decide +kernel
theorem dX10_addBytes_21 : decode cX10_addBytes 21 = .ok (.aload_n 0, 1) := by decide +kernel
theorem dX10_addBytes_22 : decode cX10_addBytes 22 = .ok (.getfield 15, 3) := by decide +kernel
theorem dX10_addBytes_25 : decode cX10_addBytes 25 = .ok (.iload_n 1, 1) := by decide +kernel
theorem dX10_addBytes_26 : decode cX10_addBytes 26 = .ok (.iload_n 2, 1) := by decide +kernel
theorem dX10_addBytes_27 : decode cX10_addBytes 27 = .ok (.iushr, 1) := by decide +kernel
theorem dX10_addBytes_28 : decode cX10_addBytes 28 = .ok (.sipush 255, 3) := by decide +kernel
theorem dX10_addBytes_31 : decode cX10_addBytes 31 = .ok (.iand, 1) := by decide +kernel
theorem dX10_addBytes_32 : decode cX10_addBytes 32 = .ok (.iastore, 1) := by decide +kernel
theorem dX10_addBytes_33 : decode cX10_addBytes 33 = .ok (.aload_n 0, 1) := by decide +kernel
theorem dX10_addBytes_34 : decode cX10_addBytes 34 = .ok (.dup, 1) := by decide +kernel
theorem dX10_addBytes_35 : decode cX10_addBytes 35 = .ok (.getfield 15, 3) := by decide +kernel
theorem dX10_addBytes_38 : decode cX10_addBytes 38 = .ok (.iconst 1, 1) := by decide +kernel
theorem dX10_addBytes_39 : decode cX10_addBytes 39 = .ok (.iadd, 1) := by decide +kernel
theorem dX10_addBytes_40 : decode cX10_addBytes 40 = .ok (.putfield 15, 3) := by decide +kernel
theorem dX10_addBytes_43 : decode cX10_addBytes 43 = .ok (.iinc 2 (-8), 3) := by decide +kernel
theorem dX10_addBytes_46 : decode cX10_addBytes 46 = .ok (.goto (-43), 3) := by decide +kernel
theorem dX10_addBytes_49 : decode cX10_addBytes 49 = .ok (.return_, 1) := by decide +kernel
theorem dX10_addToken_0 : decode cX10_addToken 0 = .ok (.aload_n 0, 1) := by decide +kernel
theorem dX10_addToken_1 : decode cX10_addToken 1 = .ok (.getfield 28, 3) := by decide +kernel
theorem dX10_addToken_4 : decode cX10_addToken 4 = .ok (.sipush 400, 3) := by decide +kernel
theorem dX10_addToken_7 : decode cX10_addToken 7 = .ok (.if_icmp .gt 43, 3) := by decide +kernel
theorem dX10_addToken_10 : decode cX10_addToken 10 = .ok (.aload_n 0, 1) := by decide +kernel
theorem dX10_addToken_11 : decode cX10_addToken 11 = .ok (.getfield 19, 3) := by decide +kernel
theorem dX10_addToken_14 : decode cX10_addToken 14 = .ok (.aload_n 0, 1) := by decide +kernel
theorem dX10_addToken_15 : decode cX10_addToken 15 = .ok (.getfield 28, 3) := by decide +kernel
theorem dX10_addToken_18 : decode cX10_addToken 18 = .ok (.iload_n 1, 1) := by decide +kernel
theorem dX10_addToken_19 : decode cX10_addToken 19 = .ok (.iastore, 1) := by decide +kernel
theorem dX10_addToken_20 : decode cX10_addToken 20 = .ok (.aload_n 0, 1) := by decide +kernel
theorem dX10_addToken_21 : decode cX10_addToken 21 = .ok (.getfield 22, 3) := by decide +kernel
theorem dX10_addToken_24 : decode cX10_addToken 24 = .ok (.aload_n 0, 1) := by decide +kernel
theorem dX10_addToken_25 : decode cX10_addToken 25 = .ok (.getfield 28, 3) := by decide +kernel
theorem dX10_addToken_28 : decode cX10_addToken 28 = .ok (.iload_n 2, 1) := by decide +kernel
theorem dX10_addToken_29 : decode cX10_addToken 29 = .ok (.iastore, 1) := by decide +kernel
theorem dX10_addToken_30 : decode cX10_addToken 30 = .ok (.aload_n 0, 1) := by decide +kernel
theorem dX10_addToken_31 : decode cX10_addToken 31 = .ok (.getfield 25, 3) := by decide +kernel
theorem dX10_addToken_34 : decode cX10_addToken 34 = .ok (.aload_n 0, 1) := by decide +kernel
theorem dX10_addToken_35 : decode cX10_addToken 35 = .ok (.getfield 28, 3) := by decide +kernel
theorem dX10_addToken_38 : decode cX10_addToken 38 = .ok (.iload_n 3, 1) := by decide +kernel
theorem dX10_addToken_39 : decode cX10_addToken 39 = .ok (.iastore, 1) := by decide +kernel
theorem dX10_addToken_40 : decode cX10_addToken 40 = .ok (.aload_n 0, 1) := by decide +kernel
theorem dX10_addToken_41 : decode cX10_addToken 41 = .ok (.dup, 1) := by decide +kernel
theorem dX10_addToken_42 : decode cX10_addToken 42 = .ok (.getfield 28, 3) := by decide +kernel
theorem dX10_addToken_45 : decode cX10_addToken 45 = .ok (.iconst 1, 1) := by decide +kernel
theorem dX10_addToken_46 : decode cX10_addToken 46 = .ok (.iadd, 1) := by decide +kernel
theorem dX10_addToken_47 : decode cX10_addToken 47 = .ok (.putfield 28, 3) := by decide +kernel
theorem dX10_addToken_50 : decode cX10_addToken 50 = .ok (.return_, 1) := by decide +kernel
theorem dX11_allEased_0 : decode cX11_allEased 0 = .ok (.aload_n 0, 1) := by decide +kernel
theorem dX11_allEased_1 : decode cX11_allEased 1 = .ok (.getfield 43, 3) := by decide +kernel
theorem dX11_allEased_4 : decode cX11_allEased 4 = .ok (.getfield 111, 3) := by decide +kernel
theorem dX11_allEased_7 : decode cX11_allEased 7 = .ok (.invokevirtual 152, 3) := by decide +kernel
theorem dX11_allEased_10 : decode cX11_allEased 10 = .ok (.ifCond .ne 5, 3) := by decide +kernel
theorem dX11_allEased_13 : decode cX11_allEased 13 = .ok (.iconst (-1), 1) := by decide +kernel
theorem dX11_allEased_14 : decode cX11_allEased 14 = .ok (.ireturn, 1) := by decide +kernel
theorem dX11_allEased_15 : decode cX11_allEased 15 = .ok (.aload_n 0, 1) := by decide +kernel
theorem dX11_allEased_16 : decode cX11_allEased 16 = .ok (.getfield 61, 3) := by decide +kernel
theorem dX11_allEased_19 : decode cX11_allEased 19 = .ok (.aload_n 0, 1) := by decide +kernel
theorem dX11_allEased_20 : decode cX11_allEased 20 = .ok (.getfield 43, 3) := by decide +kernel
theorem dX11_allEased_23 : decode cX11_allEased 23 = .ok (.getfield 111, 3) := by decide +kernel
theorem dX11_allEased_26 : decode cX11_allEased 26 = .ok (.aload_n 0, 1) := by decide +kernel
theorem dX11_allEased_27 : decode cX11_allEased 27 = .ok (.invokevirtual 159, 3) := by decide +kernel
theorem dX11_allEased_30 : decode cX11_allEased 30 = .ok (.invokevirtual 162, 3) := by decide +kernel
theorem dX11_allEased_33 : decode cX11_allEased 33 = .ok (.aload_n 0, 1) := by decide +kernel
theorem dX11_allEased_34 : decode cX11_allEased 34 = .ok (.getfield 68, 3) := by decide +kernel
theorem dX11_allEased_37 : decode cX11_allEased 37 = .ok (.aload_n 0, 1) := by decide +kernel
theorem dX11_allEased_38 : decode cX11_allEased 38 = .ok (.getfield 61, 3) := by decide +kernel
theorem dX11_allEased_41 : decode cX11_allEased 41 = .ok (.iconst 0, 1) := by decide +kernel
theorem dX11_allEased_42 : decode cX11_allEased 42 = .ok (.aload_n 0, 1) := by decide +kernel
theorem dX11_allEased_43 : decode cX11_allEased 43 = .ok (.getfield 43, 3) := by decide +kernel
theorem dX11_allEased_46 : decode cX11_allEased 46 = .ok (.getfield 111, 3) := by decide +kernel
theorem dX11_allEased_49 : decode cX11_allEased 49 = .ok (.getfield 124, 3) := by decide +kernel
theorem dX11_allEased_52 : decode cX11_allEased 52 = .ok (.iconst 4, 1) := by decide +kernel
theorem dX11_allEased_53 : decode cX11_allEased 53 = .ok (.iaload, 1) := by decide +kernel
theorem dX11_allEased_54 : decode cX11_allEased 54 = .ok (.iconst 1, 1) := by decide +kernel
theorem dX11_allEased_55 : decode cX11_allEased 55 = .ok (.isub, 1) := by decide +kernel
theorem dX11_allEased_56 : decode cX11_allEased 56 = .ok (.invokevirtual 190, 3) := by decide +kernel
theorem dX11_allEased_59 : decode cX11_allEased 59 = .ok (.ireturn, 1) := by decide +kernel
theorem dX12_allEased_0 : decode cX12_allEased 0 = .ok (.aload_n 0, 1) := by decide +kernel
theorem dX12_allEased_1 : decode cX12_allEased 1 = .ok (.invokevirtual 294, 3) := by decide +kernel
theorem dX12_allEased_4 : decode cX12_allEased 4 = .ok (.ifCond .eq 11, 3) := by decide +kernel
theorem dX12_allEased_7 : decode cX12_allEased 7 = .ok (.aload_n 0, 1) := by decide +kernel
theorem dX12_allEased_8 : decode cX12_allEased 8 = .ok (.iconst (-1), 1) := by decide +kernel
theorem dX12_allEased_9 : decode cX12_allEased 9 = .ok (.invokevirtual 384, 3) := by decide +kernel
theorem dX12_allEased_12 : decode cX12_allEased 12 = .ok (.goto 4, 3) := by decide +kernel
theorem dX12_allEased_15 : decode cX12_allEased 15 = .ok (.iconst (-1), 1) := by decide +kernel
theorem dX12_allEased_16 : decode cX12_allEased 16 = .ok (.ireturn, 1) := by decide +kernel
theorem dX12_isArcher_0 : decode cX12_isArcher 0 = .ok (.iload_n 1, 1) := by decide +kernel
theorem dX12_isArcher_1 : decode cX12_isArcher 1 = .ok (.ifCond .lt 17, 3) := by decide +kernel
theorem dX12_isArcher_4 : decode cX12_isArcher 4 = .ok (.iload_n 1, 1) := by decide +kernel
theorem dX12_isArcher_5 : decode cX12_isArcher 5 = .ok (.aload_n 0, 1) := by decide +kernel
theorem dX12_isArcher_6 : decode cX12_isArcher 6 = .ok (.getfield 39, 3) := by decide +kernel
theorem dX12_isArcher_9 : decode cX12_isArcher 9 = .ok (.iconst 5, 1) := by decide +kernel
theorem dX12_isArcher_10 : decode cX12_isArcher 10 = .ok (.iaload, 1) := by decide +kernel
theorem dX12_isArcher_11 : decode cX12_isArcher 11 = .ok (.if_icmp .ge 7, 3) := by decide +kernel
theorem dX12_isArcher_14 : decode cX12_isArcher 14 = .ok (.iconst 1, 1) := by decide +kernel
theorem dX12_isArcher_15 : decode cX12_isArcher 15 = .ok (.goto 4, 3) := by decide +kernel
theorem dX12_isArcher_18 : decode cX12_isArcher 18 = .ok (.iconst 0, 1) := by decide +kernel
theorem dX12_isArcher_19 : decode cX12_isArcher 19 = .ok (.ireturn, 1) := by decide +kernel
theorem dX1_hasArcher_0 : decode cX1_hasArcher 0 = .ok (.iload_n 1, 1) := by decide +kernel
theorem dX1_hasArcher_1 : decode cX1_hasArcher 1 = .ok (.iconst 0, 1) := by decide +kernel
theorem dX1_hasArcher_2 : decode cX1_hasArcher 2 = .ok (.aload_n 0, 1) := by decide +kernel
theorem dX1_hasArcher_3 : decode cX1_hasArcher 3 = .ok (.getfield 11, 3) := by decide +kernel
theorem dX1_hasArcher_6 : decode cX1_hasArcher 6 = .ok (.iconst 4, 1) := by decide +kernel
theorem dX1_hasArcher_7 : decode cX1_hasArcher 7 = .ok (.iaload, 1) := by decide +kernel
theorem dX1_hasArcher_8 : decode cX1_hasArcher 8 = .ok (.iconst 1, 1) := by decide +kernel
theorem dX1_hasArcher_9 : decode cX1_hasArcher 9 = .ok (.isub, 1) := by decide +kernel
theorem dX1_hasArcher_10 : decode cX1_hasArcher 10 = .ok (.invokestatic 27, 3) := by decide +kernel
theorem dX1_hasArcher_13 : decode cX1_hasArcher 13 = .ok (.ireturn, 1) := by decide +kernel
theorem dJ7_fill_53178_0 : decode cJ7_fill_53178 0 = .ok (.iconst 0, 1) := by decide +kernel
theorem dJ7_fill_53178_1 : decode cJ7_fill_53178 1 = .ok (.istore_n 2, 1) := by decide +kernel
theorem dJ7_fill_53178_2 : decode cJ7_fill_53178 2 = .ok (.aload_n 0, 1) := by decide +kernel
theorem dJ7_fill_53178_3 : decode cJ7_fill_53178 3 = .ok (.arraylength, 1) := by decide +kernel
theorem dJ7_fill_53178_4 : decode cJ7_fill_53178 4 = .ok (.istore_n 3, 1) := by decide +kernel
theorem dJ7_fill_53178_5 : decode cJ7_fill_53178 5 = .ok (.iload_n 2, 1) := by decide +kernel
theorem dJ7_fill_53178_6 : decode cJ7_fill_53178 6 = .ok (.iload_n 3, 1) := by decide +kernel
theorem dJ7_fill_53178_7 : decode cJ7_fill_53178 7 = .ok (.if_icmp .ge 13, 3) := by decide +kernel
theorem dJ7_fill_53178_10 : decode cJ7_fill_53178 10 = .ok (.aload_n 0, 1) := by decide +kernel
theorem dJ7_fill_53178_11 : decode cJ7_fill_53178 11 = .ok (.iload_n 2, 1) := by decide +kernel
theorem dJ7_fill_53178_12 : decode cJ7_fill_53178 12 = .ok (.iload_n 1, 1) := by decide +kernel
theorem dJ7_fill_53178_13 : decode cJ7_fill_53178 13 = .ok (.iastore, 1) := by decide +kernel
theorem dJ7_fill_53178_14 : decode cJ7_fill_53178 14 = .ok (.iinc 2 1, 3) := by decide +kernel
theorem dJ7_fill_53178_17 : decode cJ7_fill_53178 17 = .ok (.goto (-12), 3) := by decide +kernel
theorem dJ7_fill_53178_20 : decode cJ7_fill_53178 20 = .ok (.return_, 1) := by decide +kernel
theorem dX3_readClause_0 : decode cX3_readClause 0 = .ok (.aload_n 1, 1) := by decide +kernel
theorem dX3_readClause_1 : decode cX3_readClause 1 = .ok (.getfield 41, 3) := by decide +kernel
theorem dX3_readClause_4 : decode cX3_readClause 4 = .ok (.iconst 3, 1) := by decide +kernel
theorem dX3_readClause_5 : decode cX3_readClause 5 = .ok (.if_icmp .ne 10, 3) := by decide +kernel
theorem dX3_readClause_8 : decode cX3_readClause 8 = .ok (.aload_n 1, 1) := by decide +kernel
theorem dX3_readClause_9 : decode cX3_readClause 9 = .ok (.getfield 44, 3) := by decide +kernel
theorem dX3_readClause_12 : decode cX3_readClause 12 = .ok (.goto 4, 3) := by decide +kernel
theorem dX3_readClause_15 : decode cX3_readClause 15 = .ok (.iconst (-1), 1) := by decide +kernel
theorem dX3_readClause_16 : decode cX3_readClause 16 = .ok (.istore_n 3, 1) := by decide +kernel
theorem dX3_readClause_17 : decode cX3_readClause 17 = .ok (.iload_n 3, 1) := by decide +kernel
theorem dX3_readClause_18 : decode cX3_readClause 18 = .ok (.invokestatic 47, 3) := by decide +kernel
theorem dX3_readClause_21 : decode cX3_readClause 21 = .ok (.ifCond .ne 15, 3) := by decide +kernel
theorem dX3_readClause_24 : decode cX3_readClause 24 = .ok (.aload_n 1, 1) := by decide +kernel
theorem dX3_readClause_25 : decode cX3_readClause 25 = .ok (.aload_n 1, 1) := by decide +kernel
theorem dX3_readClause_26 : decode cX3_readClause 26 = .ok (.getfield 51, 3) := by decide +kernel
theorem dX3_readClause_29 : decode cX3_readClause 29 = .ok (.iconst 0, 1) := by decide +kernel
theorem dX3_readClause_30 : decode cX3_readClause 30 = .ok (.invokevirtual 54, 3) := by decide +kernel
theorem dX3_readClause_33 : decode cX3_readClause 33 = .ok (.goto 62, 3) := by decide +kernel
theorem dX3_readClause_36 : decode cX3_readClause 36 = .ok (.iload_n 2, 1) := by decide +kernel
theorem dX3_readClause_37 : decode cX3_readClause 37 = .ok (.bipush 40, 2) := by decide +kernel
theorem dX3_readClause_39 : decode cX3_readClause 39 = .ok (.if_icmp .ge 34, 3) := by decide +kernel
theorem dX3_readClause_42 : decode cX3_readClause 42 = .ok (.iload_n 3, 1) := by decide +kernel
theorem dX3_readClause_43 : decode cX3_readClause 43 = .ok (.bipush 13, 2) := by decide +kernel
theorem dX3_readClause_45 : decode cX3_readClause 45 = .ok (.if_icmp .ne 7, 3) := by decide +kernel
theorem dX3_readClause_48 : decode cX3_readClause 48 = .ok (.iconst 1, 1) := by decide +kernel
theorem dX3_readClause_49 : decode cX3_readClause 49 = .ok (.goto 4, 3) := by decide +kernel
theorem dX3_readClause_52 : decode cX3_readClause 52 = .ok (.iconst 0, 1) := by decide +kernel
theorem dX3_readClause_53 : decode cX3_readClause 53 = .ok (.iload_n 2, 1) := by decide +kernel
theorem dX3_readClause_54 : decode cX3_readClause 54 = .ok (.ifCond .ne 7, 3) := by decide +kernel
theorem dX3_readClause_57 : decode cX3_readClause 57 = .ok (.iconst 1, 1) := by decide +kernel
theorem dX3_readClause_58 : decode cX3_readClause 58 = .ok (.goto 4, 3) := by decide +kernel
theorem dX3_readClause_61 : decode cX3_readClause 61 = .ok (.iconst 0, 1) := by decide +kernel
theorem dX3_readClause_62 : decode cX3_readClause 62 = .ok (.if_icmp .ne 11, 3) := by decide +kernel
theorem dX3_readClause_65 : decode cX3_readClause 65 = .ok (.aload_n 0, 1) := by decide +kernel
theorem dX3_readClause_66 : decode cX3_readClause 66 = .ok (.iload_n 3, 1) := by decide +kernel
theorem dX3_readClause_67 : decode cX3_readClause 67 = .ok (.invokevirtual 58, 3) := by decide +kernel
theorem dX3_readClause_70 : decode cX3_readClause 70 = .ok (.ifCond .eq 15, 3) := by decide +kernel
theorem dX3_readClause_73 : decode cX3_readClause 73 = .ok (.aload_n 1, 1) := by decide +kernel
theorem dX3_readClause_74 : decode cX3_readClause 74 = .ok (.aload_n 1, 1) := by decide +kernel
theorem dX3_readClause_75 : decode cX3_readClause 75 = .ok (.getfield 51, 3) := by decide +kernel
theorem dX3_readClause_78 : decode cX3_readClause 78 = .ok (.iconst 4, 1) := by decide +kernel
theorem dX3_readClause_79 : decode cX3_readClause 79 = .ok (.invokevirtual 54, 3) := by decide +kernel
theorem dX3_readClause_82 : decode cX3_readClause 82 = .ok (.goto 13, 3) := by decide +kernel
theorem dX3_readClause_85 : decode cX3_readClause 85 = .ok (.aload_n 1, 1) := by decide +kernel
theorem dX3_readClause_86 : decode cX3_readClause 86 = .ok (.invokevirtual 61, 3) := by decide +kernel
theorem dX3_readClause_89 : decode cX3_readClause 89 = .ok (.aload_n 0, 1) := by decide +kernel
theorem dX3_readClause_90 : decode cX3_readClause 90 = .ok (.aload_n 1, 1) := by decide +kernel
theorem dX3_readClause_91 : decode cX3_readClause 91 = .ok (.iload_n 3, 1) := by decide +kernel
theorem dX3_readClause_92 : decode cX3_readClause 92 = .ok (.invokevirtual 64, 3) := by decide +kernel
theorem dX3_readClause_95 : decode cX3_readClause 95 = .ok (.return_, 1) := by decide +kernel
theorem dX8_readClause_0 : decode cX8_readClause 0 = .ok (.aload_n 1, 1) := by decide +kernel
theorem dX8_readClause_1 : decode cX8_readClause 1 = .ok (.bipush 14, 2) := by decide +kernel
theorem dX8_readClause_3 : decode cX8_readClause 3 = .ok (.invokevirtual 49, 3) := by decide +kernel
theorem dX8_readClause_6 : decode cX8_readClause 6 = .ok (.ifCond .ne 13, 3) := by decide +kernel
theorem dX8_readClause_9 : decode cX8_readClause 9 = .ok (.aload_n 1, 1) := by decide +kernel
theorem dX8_readClause_10 : decode cX8_readClause 10 = .ok (.aload_n 1, 1) := by decide +kernel
theorem dX8_readClause_11 : decode cX8_readClause 11 = .ok (.getfield 53, 3) := by decide +kernel
theorem dX8_readClause_14 : decode cX8_readClause 14 = .ok (.iconst 0, 1) := by decide +kernel
theorem dX8_readClause_15 : decode cX8_readClause 15 = .ok (.invokevirtual 56, 3) := by decide +kernel
theorem dX8_readClause_18 : decode cX8_readClause 18 = .ok (.return_, 1) := by decide +kernel
theorem dX8_readClause_19 : decode cX8_readClause 19 = .ok (.iload_n 2, 1) := by decide +kernel
theorem dX8_readClause_20 : decode cX8_readClause 20 = .ok (.bipush 12, 2) := by decide +kernel
theorem dX8_readClause_22 : decode cX8_readClause 22 = .ok (.if_icmp .lt 13, 3) := by decide +kernel
theorem dX8_readClause_25 : decode cX8_readClause 25 = .ok (.aload_n 1, 1) := by decide +kernel
theorem dX8_readClause_26 : decode cX8_readClause 26 = .ok (.aload_n 1, 1) := by decide +kernel
theorem dX8_readClause_27 : decode cX8_readClause 27 = .ok (.getfield 53, 3) := by decide +kernel
theorem dX8_readClause_30 : decode cX8_readClause 30 = .ok (.iconst 4, 1) := by decide +kernel
theorem dX8_readClause_31 : decode cX8_readClause 31 = .ok (.invokevirtual 56, 3) := by decide +kernel
theorem dX8_readClause_34 : decode cX8_readClause 34 = .ok (.return_, 1) := by decide +kernel
theorem dX8_readClause_35 : decode cX8_readClause 35 = .ok (.aload_n 1, 1) := by decide +kernel
theorem dX8_readClause_36 : decode cX8_readClause 36 = .ok (.invokevirtual 60, 3) := by decide +kernel
theorem dX8_readClause_39 : decode cX8_readClause 39 = .ok (.aload_n 0, 1) := by decide +kernel
theorem dX8_readClause_40 : decode cX8_readClause 40 = .ok (.aload_n 1, 1) := by decide +kernel
theorem dX8_readClause_41 : decode cX8_readClause 41 = .ok (.invokevirtual 63, 3) := by decide +kernel
theorem dX8_readClause_44 : decode cX8_readClause 44 = .ok (.aload_n 1, 1) := by decide +kernel
theorem dX8_readClause_45 : decode cX8_readClause 45 = .ok (.getfield 35, 3) := by decide +kernel
theorem dX8_readClause_48 : decode cX8_readClause 48 = .ok (.ifCond .ne 31, 3) := by decide +kernel
theorem dX8_readClause_51 : decode cX8_readClause 51 = .ok (.aload_n 1, 1) := by decide +kernel
theorem dX8_readClause_52 : decode cX8_readClause 52 = .ok (.bipush 15, 2) := by decide +kernel
theorem dX8_readClause_54 : decode cX8_readClause 54 = .ok (.invokevirtual 49, 3) := by decide +kernel
theorem dX8_readClause_57 : decode cX8_readClause 57 = .ok (.ifCond .eq 22, 3) := by decide +kernel
theorem dX8_readClause_60 : decode cX8_readClause 60 = .ok (.aload_n 1, 1) := by decide +kernel
theorem dX8_readClause_61 : decode cX8_readClause 61 = .ok (.invokevirtual 60, 3) := by decide +kernel
theorem dX8_readClause_64 : decode cX8_readClause 64 = .ok (.aload_n 0, 1) := by decide +kernel
theorem dX8_readClause_65 : decode cX8_readClause 65 = .ok (.aload_n 1, 1) := by decide +kernel
theorem dX8_readClause_66 : decode cX8_readClause 66 = .ok (.iconst 0, 1) := by decide +kernel
theorem dX8_readClause_67 : decode cX8_readClause 67 = .ok (.invokevirtual 67, 3) := by decide +kernel
theorem dX8_readClause_70 : decode cX8_readClause 70 = .ok (.aload_n 0, 1) := by decide +kernel
theorem dX8_readClause_71 : decode cX8_readClause 71 = .ok (.iconst 4, 1) := by decide +kernel
theorem dX8_readClause_72 : decode cX8_readClause 72 = .ok (.iconst 0, 1) := by decide +kernel
theorem dX8_readClause_73 : decode cX8_readClause 73 = .ok (.invokevirtual 70, 3) := by decide +kernel
theorem dX8_readClause_76 : decode cX8_readClause 76 = .ok (.goto 9, 3) := by decide +kernel
theorem dX8_readClause_79 : decode cX8_readClause 79 = .ok (.aload_n 0, 1) := by decide +kernel
theorem dX8_readClause_80 : decode cX8_readClause 80 = .ok (.iconst 3, 1) := by decide +kernel
theorem dX8_readClause_81 : decode cX8_readClause 81 = .ok (.iconst 0, 1) := by decide +kernel
theorem dX8_readClause_82 : decode cX8_readClause 82 = .ok (.invokevirtual 70, 3) := by decide +kernel
theorem dX8_readClause_85 : decode cX8_readClause 85 = .ok (.return_, 1) := by decide +kernel
theorem dX11_leastSkill_0 : decode cX11_leastSkill 0 = .ok (.aload_n 0, 1) := by decide +kernel
theorem dX11_leastSkill_1 : decode cX11_leastSkill 1 = .ok (.getfield 43, 3) := by decide +kernel
theorem dX11_leastSkill_4 : decode cX11_leastSkill 4 = .ok (.getfield 111, 3) := by decide +kernel
theorem dX11_leastSkill_7 : decode cX11_leastSkill 7 = .ok (.iload_n 1, 1) := by decide +kernel
theorem dX11_leastSkill_8 : decode cX11_leastSkill 8 = .ok (.invokevirtual 139, 3) := by decide +kernel
theorem dX11_leastSkill_11 : decode cX11_leastSkill 11 = .ok (.ifCond .eq 13, 3) := by decide +kernel
theorem dX11_leastSkill_14 : decode cX11_leastSkill 14 = .ok (.iload_n 2, 1) := by decide +kernel
theorem dX11_leastSkill_15 : decode cX11_leastSkill 15 = .ok (.iconst 1, 1) := by decide +kernel
theorem dX11_leastSkill_16 : decode cX11_leastSkill 16 = .ok (.bipush 40, 2) := by decide +kernel
theorem dX11_leastSkill_18 : decode cX11_leastSkill 18 = .ok (.invokestatic 90, 3) := by decide +kernel
theorem dX11_leastSkill_21 : decode cX11_leastSkill 21 = .ok (.ifCond .ne 5, 3) := by decide +kernel
theorem dX11_leastSkill_24 : decode cX11_leastSkill 24 = .ok (.iconst (-1), 1) := by decide +kernel
theorem dX11_leastSkill_25 : decode cX11_leastSkill 25 = .ok (.ireturn, 1) := by decide +kernel
theorem dX11_leastSkill_26 : decode cX11_leastSkill 26 = .ok (.iconst 1, 1) := by decide +kernel
theorem dX11_leastSkill_27 : decode cX11_leastSkill 27 = .ok (.istore_n 3, 1) := by decide +kernel
theorem dX11_leastSkill_28 : decode cX11_leastSkill 28 = .ok (.iload_n 3, 1) := by decide +kernel
theorem dX11_leastSkill_29 : decode cX11_leastSkill 29 = .ok (.bipush 9, 2) := by decide +kernel
theorem dX11_leastSkill_31 : decode cX11_leastSkill 31 = .ok (.if_icmp .gt 71, 3) := by decide +kernel
theorem dX11_leastSkill_34 : decode cX11_leastSkill 34 = .ok (.aload_n 0, 1) := by decide +kernel
theorem dX11_leastSkill_35 : decode cX11_leastSkill 35 = .ok (.getfield 61, 3) := by decide +kernel
theorem dX11_leastSkill_38 : decode cX11_leastSkill 38 = .ok (.aload_n 0, 1) := by decide +kernel
theorem dX11_leastSkill_39 : decode cX11_leastSkill 39 = .ok (.getfield 43, 3) := by decide +kernel
theorem dX11_leastSkill_42 : decode cX11_leastSkill 42 = .ok (.getfield 111, 3) := by decide +kernel
theorem dX11_leastSkill_45 : decode cX11_leastSkill 45 = .ok (.aload_n 0, 1) := by decide +kernel
theorem dX11_leastSkill_46 : decode cX11_leastSkill 46 = .ok (.invokevirtual 159, 3) := by decide +kernel
theorem dX11_leastSkill_49 : decode cX11_leastSkill 49 = .ok (.invokevirtual 162, 3) := by decide +kernel
theorem dX11_leastSkill_52 : decode cX11_leastSkill 52 = .ok (.aload_n 0, 1) := by decide +kernel
theorem dX11_leastSkill_53 : decode cX11_leastSkill 53 = .ok (.getfield 61, 3) := by decide +kernel
theorem dX11_leastSkill_56 : decode cX11_leastSkill 56 = .ok (.getfield 170, 3) := by decide +kernel
theorem dX11_leastSkill_59 : decode cX11_leastSkill 59 = .ok (.getfield 124, 3) := by decide +kernel
theorem dX11_leastSkill_62 : decode cX11_leastSkill 62 = .ok (.bipush 43, 2) := by decide +kernel
theorem dX11_leastSkill_64 : decode cX11_leastSkill 64 = .ok (.iload_n 1, 1) := by decide +kernel
theorem dX11_leastSkill_65 : decode cX11_leastSkill 65 = .ok (.iadd, 1) := by decide +kernel
theorem dX11_leastSkill_66 : decode cX11_leastSkill 66 = .ok (.iload_n 3, 1) := by decide +kernel
theorem dX11_leastSkill_67 : decode cX11_leastSkill 67 = .ok (.iastore, 1) := by decide +kernel
theorem dX11_leastSkill_68 : decode cX11_leastSkill 68 = .ok (.aload_n 0, 1) := by decide +kernel
theorem dX11_leastSkill_69 : decode cX11_leastSkill 69 = .ok (.getfield 61, 3) := by decide +kernel
theorem dX11_leastSkill_72 : decode cX11_leastSkill 72 = .ok (.iload_n 2, 1) := by decide +kernel
theorem dX11_leastSkill_73 : decode cX11_leastSkill 73 = .ok (.invokevirtual 187, 3) := by decide +kernel
theorem dX11_leastSkill_76 : decode cX11_leastSkill 76 = .ok (.aload_n 0, 1) := by decide +kernel
theorem dX11_leastSkill_77 : decode cX11_leastSkill 77 = .ok (.getfield 61, 3) := by decide +kernel
theorem dX11_leastSkill_80 : decode cX11_leastSkill 80 = .ok (.getfield 170, 3) := by decide +kernel
theorem dX11_leastSkill_83 : decode cX11_leastSkill 83 = .ok (.getfield 124, 3) := by decide +kernel
theorem dX11_leastSkill_86 : decode cX11_leastSkill 86 = .ok (.bipush 53, 2) := by decide +kernel
theorem dX11_leastSkill_88 : decode cX11_leastSkill 88 = .ok (.iload_n 1, 1) := by decide +kernel
theorem dX11_leastSkill_89 : decode cX11_leastSkill 89 = .ok (.iadd, 1) := by decide +kernel
theorem dX11_leastSkill_90 : decode cX11_leastSkill 90 = .ok (.iaload, 1) := by decide +kernel
theorem dX11_leastSkill_91 : decode cX11_leastSkill 91 = .ok (.ifCond .ne 5, 3) := by decide +kernel
theorem dX11_leastSkill_94 : decode cX11_leastSkill 94 = .ok (.iload_n 3, 1) := by decide +kernel
theorem dX11_leastSkill_95 : decode cX11_leastSkill 95 = .ok (.ireturn, 1) := by decide +kernel
theorem dX11_leastSkill_96 : decode cX11_leastSkill 96 = .ok (.iinc 3 1, 3) := by decide +kernel
theorem dX11_leastSkill_99 : decode cX11_leastSkill 99 = .ok (.goto (-71), 3) := by decide +kernel
theorem dX11_leastSkill_102 : decode cX11_leastSkill 102 = .ok (.bipush (-2), 2) := by decide +kernel
theorem dX11_leastSkill_104 : decode cX11_leastSkill 104 = .ok (.ireturn, 1) := by decide +kernel
theorem dX12_leastSkill_0 : decode cX12_leastSkill 0 = .ok (.aload_n 0, 1) := by decide +kernel
theorem dX12_leastSkill_1 : decode cX12_leastSkill 1 = .ok (.iload_n 1, 1) := by decide +kernel
theorem dX12_leastSkill_2 : decode cX12_leastSkill 2 = .ok (.invokevirtual 314, 3) := by decide +kernel
theorem dX12_leastSkill_5 : decode cX12_leastSkill 5 = .ok (.ifCond .eq 15, 3) := by decide +kernel
theorem dX12_leastSkill_8 : decode cX12_leastSkill 8 = .ok (.iload_n 2, 1) := by decide +kernel
theorem dX12_leastSkill_9 : decode cX12_leastSkill 9 = .ok (.i2l, 1) := by decide +kernel
theorem dX12_leastSkill_10 : decode cX12_leastSkill 10 = .ok (.lconst 1, 1) := by decide +kernel
theorem dX12_leastSkill_11 : decode cX12_leastSkill 11 = .ok (.ldc2_w 404, 3) := by decide +kernel
theorem dX12_leastSkill_14 : decode cX12_leastSkill 14 = .ok (.invokestatic 127, 3) := by decide +kernel
theorem dX12_leastSkill_17 : decode cX12_leastSkill 17 = .ok (.ifCond .ne 5, 3) := by decide +kernel
theorem dX12_leastSkill_20 : decode cX12_leastSkill 20 = .ok (.iconst (-1), 1) := by decide +kernel
theorem dX12_leastSkill_21 : decode cX12_leastSkill 21 = .ok (.ireturn, 1) := by decide +kernel
theorem dX12_leastSkill_22 : decode cX12_leastSkill 22 = .ok (.bipush (-2), 2) := by decide +kernel
theorem dX12_leastSkill_24 : decode cX12_leastSkill 24 = .ok (.istore_n 3, 1) := by decide +kernel
theorem dX12_leastSkill_25 : decode cX12_leastSkill 25 = .ok (.aload_n 0, 1) := by decide +kernel
theorem dX12_leastSkill_26 : decode cX12_leastSkill 26 = .ok (.invokevirtual 372, 3) := by decide +kernel
theorem dX12_leastSkill_29 : decode cX12_leastSkill 29 = .ok (.iconst 1, 1) := by decide +kernel
theorem dX12_leastSkill_30 : decode cX12_leastSkill 30 = .ok (.istore 4, 2) := by decide +kernel
theorem dX12_leastSkill_32 : decode cX12_leastSkill 32 = .ok (.iload 4, 2) := by decide +kernel
theorem dX12_leastSkill_34 : decode cX12_leastSkill 34 = .ok (.bipush 9, 2) := by decide +kernel
theorem dX12_leastSkill_36 : decode cX12_leastSkill 36 = .ok (.if_icmp .gt 46, 3) := by decide +kernel
theorem dX12_leastSkill_39 : decode cX12_leastSkill 39 = .ok (.iload_n 3, 1) := by decide +kernel
theorem dX12_leastSkill_40 : decode cX12_leastSkill 40 = .ok (.ifCond .ge 42, 3) := by decide +kernel
theorem dX12_leastSkill_43 : decode cX12_leastSkill 43 = .ok (.aload_n 0, 1) := by decide +kernel
theorem dX12_leastSkill_44 : decode cX12_leastSkill 44 = .ok (.getfield 39, 3) := by decide +kernel
theorem dX12_leastSkill_47 : decode cX12_leastSkill 47 = .ok (.bipush 25, 2) := by decide +kernel
theorem dX12_leastSkill_49 : decode cX12_leastSkill 49 = .ok (.iconst 3, 1) := by decide +kernel
theorem dX12_leastSkill_50 : decode cX12_leastSkill 50 = .ok (.iload_n 1, 1) := by decide +kernel
theorem dX12_leastSkill_51 : decode cX12_leastSkill 51 = .ok (.imul, 1) := by decide +kernel
theorem dX12_leastSkill_52 : decode cX12_leastSkill 52 = .ok (.iadd, 1) := by decide +kernel
theorem dX12_leastSkill_53 : decode cX12_leastSkill 53 = .ok (.iload 4, 2) := by decide +kernel
theorem dX12_leastSkill_55 : decode cX12_leastSkill 55 = .ok (.iastore, 1) := by decide +kernel
theorem dX12_leastSkill_56 : decode cX12_leastSkill 56 = .ok (.aload_n 0, 1) := by decide +kernel
theorem dX12_leastSkill_57 : decode cX12_leastSkill 57 = .ok (.iload_n 2, 1) := by decide +kernel
theorem dX12_leastSkill_58 : decode cX12_leastSkill 58 = .ok (.invokevirtual 375, 3) := by decide +kernel
theorem dX12_leastSkill_61 : decode cX12_leastSkill 61 = .ok (.aload_n 0, 1) := by decide +kernel
theorem dX12_leastSkill_62 : decode cX12_leastSkill 62 = .ok (.iload_n 1, 1) := by decide +kernel
theorem dX12_leastSkill_63 : decode cX12_leastSkill 63 = .ok (.invokevirtual 317, 3) := by decide +kernel
theorem dX12_leastSkill_66 : decode cX12_leastSkill 66 = .ok (.ifCond .ne 6, 3) := by decide +kernel
theorem dX12_leastSkill_69 : decode cX12_leastSkill 69 = .ok (.iload 4, 2) := by decide +kernel
theorem dX12_leastSkill_71 : decode cX12_leastSkill 71 = .ok (.istore_n 3, 1) := by decide +kernel
theorem dX12_leastSkill_72 : decode cX12_leastSkill 72 = .ok (.aload_n 0, 1) := by decide +kernel
theorem dX12_leastSkill_73 : decode cX12_leastSkill 73 = .ok (.invokevirtual 378, 3) := by decide +kernel
theorem dX12_leastSkill_76 : decode cX12_leastSkill 76 = .ok (.iinc 4 1, 3) := by decide +kernel
theorem dX12_leastSkill_79 : decode cX12_leastSkill 79 = .ok (.goto (-47), 3) := by decide +kernel
theorem dX12_leastSkill_82 : decode cX12_leastSkill 82 = .ok (.iload_n 3, 1) := by decide +kernel
theorem dX12_leastSkill_83 : decode cX12_leastSkill 83 = .ok (.ireturn, 1) := by decide +kernel
theorem dX3_opensClause_0 : decode cX3_opensClause 0 = .ok (.iload_n 0, 1) := by decide +kernel
theorem dX3_opensClause_1 : decode cX3_opensClause 1 = .ok (.bipush 13, 2) := by decide +kernel
theorem dX3_opensClause_3 : decode cX3_opensClause 3 = .ok (.if_icmp .eq 18, 3) := by decide +kernel
theorem dX3_opensClause_6 : decode cX3_opensClause 6 = .ok (.iload_n 0, 1) := by decide +kernel
theorem dX3_opensClause_7 : decode cX3_opensClause 7 = .ok (.bipush 10, 2) := by decide +kernel
theorem dX3_opensClause_9 : decode cX3_opensClause 9 = .ok (.if_icmp .eq 12, 3) := by decide +kernel
theorem dX3_opensClause_12 : decode cX3_opensClause 12 = .ok (.iload_n 0, 1) := by decide +kernel
theorem dX3_opensClause_13 : decode cX3_opensClause 13 = .ok (.iconst 1, 1) := by decide +kernel
theorem dX3_opensClause_14 : decode cX3_opensClause 14 = .ok (.if_icmp .eq 7, 3) := by decide +kernel
theorem dX3_opensClause_17 : decode cX3_opensClause 17 = .ok (.iload_n 0, 1) := by decide +kernel
theorem dX3_opensClause_18 : decode cX3_opensClause 18 = .ok (.ifCond .ne 7, 3) := by decide +kernel
theorem dX3_opensClause_21 : decode cX3_opensClause 21 = .ok (.iconst 1, 1) := by decide +kernel
theorem dX3_opensClause_22 : decode cX3_opensClause 22 = .ok (.goto 4, 3) := by decide +kernel
theorem dX3_opensClause_25 : decode cX3_opensClause 25 = .ok (.iconst 0, 1) := by decide +kernel
theorem dX3_opensClause_26 : decode cX3_opensClause 26 = .ok (.ireturn, 1) := by decide +kernel
theorem dX12_comingRound_0 : decode cX12_comingRound 0 = .ok (.aload_n 0, 1) := by decide +kernel
theorem dX12_comingRound_1 : decode cX12_comingRound 1 = .ok (.invokevirtual 294, 3) := by decide +kernel
theorem dX12_comingRound_4 : decode cX12_comingRound 4 = .ok (.ifCond .ne 7, 3) := by decide +kernel
theorem dX12_comingRound_7 : decode cX12_comingRound 7 = .ok (.iconst 0, 1) := by decide +kernel
theorem dX12_comingRound_8 : decode cX12_comingRound 8 = .ok (.goto 22, 3) := by decide +kernel
theorem dX12_comingRound_11 : decode cX12_comingRound 11 = .ok (.aload_n 0, 1) := by decide +kernel
theorem dX12_comingRound_12 : decode cX12_comingRound 12 = .ok (.getfield 39, 3) := by decide +kernel
theorem dX12_comingRound_15 : decode cX12_comingRound 15 = .ok (.iconst 3, 1) := by decide +kernel
theorem dX12_comingRound_16 : decode cX12_comingRound 16 = .ok (.iaload, 1) := by decide +kernel
theorem dX12_comingRound_17 : decode cX12_comingRound 17 = .ok (.ifCond .ne 7, 3) := by decide +kernel
theorem dX12_comingRound_20 : decode cX12_comingRound 20 = .ok (.iconst 1, 1) := by decide +kernel
theorem dX12_comingRound_21 : decode cX12_comingRound 21 = .ok (.goto 9, 3) := by decide +kernel
theorem dX12_comingRound_24 : decode cX12_comingRound 24 = .ok (.aload_n 0, 1) := by decide +kernel
theorem dX12_comingRound_25 : decode cX12_comingRound 25 = .ok (.getfield 39, 3) := by decide +kernel
theorem dX12_comingRound_28 : decode cX12_comingRound 28 = .ok (.iconst 3, 1) := by decide +kernel
theorem dX12_comingRound_29 : decode cX12_comingRound 29 = .ok (.iaload, 1) := by decide +kernel
theorem dX12_comingRound_30 : decode cX12_comingRound 30 = .ok (.ireturn, 1) := by decide +kernel
theorem dX1_sumOfArchers_0 : decode cX1_sumOfArchers 0 = .ok (.iconst 0, 1) := by decide +kernel
theorem dX1_sumOfArchers_1 : decode cX1_sumOfArchers 1 = .ok (.istore_n 2, 1) := by decide +kernel
theorem dX1_sumOfArchers_2 : decode cX1_sumOfArchers 2 = .ok (.iconst 0, 1) := by decide +kernel
theorem dX1_sumOfArchers_3 : decode cX1_sumOfArchers 3 = .ok (.istore_n 3, 1) := by decide +kernel
theorem dX1_sumOfArchers_4 : decode cX1_sumOfArchers 4 = .ok (.iload_n 3, 1) := by decide +kernel
theorem dX1_sumOfArchers_5 : decode cX1_sumOfArchers 5 = .ok (.aload_n 0, 1) := by decide +kernel
theorem dX1_sumOfArchers_6 : decode cX1_sumOfArchers 6 = .ok (.getfield 11, 3) := by decide +kernel
theorem dX1_sumOfArchers_9 : decode cX1_sumOfArchers 9 = .ok (.iconst 4, 1) := by decide +kernel
theorem dX1_sumOfArchers_10 : decode cX1_sumOfArchers 10 = .ok (.iaload, 1) := by decide +kernel
theorem dX1_sumOfArchers_11 : decode cX1_sumOfArchers 11 = .ok (.if_icmp .ge 20, 3) := by decide +kernel
theorem dX1_sumOfArchers_14 : decode cX1_sumOfArchers 14 = .ok (.iload_n 2, 1) := by decide +kernel
theorem dX1_sumOfArchers_15 : decode cX1_sumOfArchers 15 = .ok (.aload_n 0, 1) := by decide +kernel
theorem dX1_sumOfArchers_16 : decode cX1_sumOfArchers 16 = .ok (.getfield 11, 3) := by decide +kernel
theorem dX1_sumOfArchers_19 : decode cX1_sumOfArchers 19 = .ok (.iload_n 1, 1) := by decide +kernel
theorem dX1_sumOfArchers_20 : decode cX1_sumOfArchers 20 = .ok (.iload_n 3, 1) := by decide +kernel
theorem dX1_sumOfArchers_21 : decode cX1_sumOfArchers 21 = .ok (.iadd, 1) := by decide +kernel
theorem dX1_sumOfArchers_22 : decode cX1_sumOfArchers 22 = .ok (.iaload, 1) := by decide +kernel
theorem dX1_sumOfArchers_23 : decode cX1_sumOfArchers 23 = .ok (.iadd, 1) := by decide +kernel
theorem dX1_sumOfArchers_24 : decode cX1_sumOfArchers 24 = .ok (.istore_n 2, 1) := by decide +kernel
theorem dX1_sumOfArchers_25 : decode cX1_sumOfArchers 25 = .ok (.iinc 3 1, 3) := by decide +kernel
theorem dX1_sumOfArchers_28 : decode cX1_sumOfArchers 28 = .ok (.goto (-24), 3) := by decide +kernel
theorem dX1_sumOfArchers_31 : decode cX1_sumOfArchers 31 = .ok (.iload_n 2, 1) := by decide +kernel
theorem dX1_sumOfArchers_32 : decode cX1_sumOfArchers 32 = .ok (.ireturn, 1) := by decide +kernel
theorem dX10_hasNextClause_0 : decode cX10_hasNextClause 0 = .ok (.aload_n 0, 1) := by decide +kernel
theorem dX10_hasNextClause_1 : decode cX10_hasNextClause 1 = .ok (.bipush 59, 2) := by decide +kernel
theorem dX10_hasNextClause_3 : decode cX10_hasNextClause 3 = .ok (.invokevirtual 57, 3) := by decide +kernel
theorem dX10_hasNextClause_6 : decode cX10_hasNextClause 6 = .ok (.istore_n 1, 1) := by decide +kernel
theorem dX10_hasNextClause_7 : decode cX10_hasNextClause 7 = .ok (.iload_n 1, 1) := by decide +kernel
theorem dX10_hasNextClause_8 : decode cX10_hasNextClause 8 = .ok (.ifCond .eq 10, 3) := by decide +kernel
theorem dX10_hasNextClause_11 : decode cX10_hasNextClause 11 = .ok (.aload_n 0, 1) := by decide +kernel
theorem dX10_hasNextClause_12 : decode cX10_hasNextClause 12 = .ok (.invokevirtual 54, 3) := by decide +kernel
theorem dX10_hasNextClause_15 : decode cX10_hasNextClause 15 = .ok (.goto 19, 3) := by decide +kernel
theorem dX10_hasNextClause_18 : decode cX10_hasNextClause 18 = .ok (.aload_n 0, 1) := by decide +kernel
theorem dX10_hasNextClause_19 : decode cX10_hasNextClause 19 = .ok (.getfield 34, 3) := by decide +kernel
theorem dX10_hasNextClause_22 : decode cX10_hasNextClause 22 = .ok (.ifCond .eq 12, 3) := by decide +kernel
theorem dX10_hasNextClause_25 : decode cX10_hasNextClause 25 = .ok (.aload_n 0, 1) := by decide +kernel
theorem dX10_hasNextClause_26 : decode cX10_hasNextClause 26 = .ok (.aload_n 0, 1) := by decide +kernel
theorem dX10_hasNextClause_27 : decode cX10_hasNextClause 27 = .ok (.getfield 40, 3) := by decide +kernel
theorem dX10_hasNextClause_30 : decode cX10_hasNextClause 30 = .ok (.iconst 0, 1) := by decide +kernel
theorem dX10_hasNextClause_31 : decode cX10_hasNextClause 31 = .ok (.invokevirtual 61, 3) := by decide +kernel
theorem dX10_hasNextClause_34 : decode cX10_hasNextClause 34 = .ok (.iload_n 1, 1) := by decide +kernel
theorem dX10_hasNextClause_35 : decode cX10_hasNextClause 35 = .ok (.ifCond .eq 14, 3) := by decide +kernel
theorem dX10_hasNextClause_38 : decode cX10_hasNextClause 38 = .ok (.aload_n 0, 1) := by decide +kernel
theorem dX10_hasNextClause_39 : decode cX10_hasNextClause 39 = .ok (.getfield 43, 3) := by decide +kernel
theorem dX10_hasNextClause_42 : decode cX10_hasNextClause 42 = .ok (.ifCond .ne 7, 3) := by decide +kernel
theorem dX10_hasNextClause_45 : decode cX10_hasNextClause 45 = .ok (.iconst 1, 1) := by decide +kernel
theorem dX10_hasNextClause_46 : decode cX10_hasNextClause 46 = .ok (.goto 4, 3) := by decide +kernel
theorem dX10_hasNextClause_49 : decode cX10_hasNextClause 49 = .ok (.iconst 0, 1) := by decide +kernel
theorem dX10_hasNextClause_50 : decode cX10_hasNextClause 50 = .ok (.ireturn, 1) := by decide +kernel
end
section
/-! ===== more rows of this claim's kit ===== -/
theorem KP.mono {l : Launch} {y : MethodName} {cc : ByteArray} {nL : Nat} {ret : Option FieldType} {fr lo : Nat} {D : va_G} {T : List (ClassId × FieldType)} {as : List Value} {w : va_W} {post post' : Int32 → Prop} (h : ∀ r, post r → post' r) (hM : KP l y cc nL ret fr lo D T as w post) : KP l y cc nL ret fr lo D T as w post' := by
  intro p e ha hc hk s m args below hf happ hP hK
  obtain ⟨k, o, h1, h2, h3, ⟨r, e1, e2, e3⟩, h5⟩ := hM p e ha hc hk s m args below hf happ hP hK
  exact ⟨k, o, h1, h2, h3, ⟨r, e1, h r e2, e3⟩, h5⟩
theorem k_neg1 (x : Int32) : x < 0 ∨ (-1 : Int32) < x := by
  rcases Int32.lt_or_le x 0 with h | h
  · exact Or.inl h
  · refine Or.inr ?_
    rw [Int32.lt_iff_toInt_lt]
    rw [Int32.le_iff_toInt_le] at h
    have : (-1 : Int32).toInt = -1 := by decide
    have h0 : (0 : Int32).toInt = 0 := by decide
    omega
theorem k_upd0 (k : Nat) : upd (fun _ => (0 : Int32)) k 0 = fun _ => 0 := by
  funext j
  simp [upd]
theorem k_Pl {D : va_G} {cl : List vw_C} {a b : va_W} {H : Heap} (h : va_P D cl (a ++ b) H) : va_P D cl a H := fun k q hk => h k q (by rw [List.getElem?_append_left (List.getElem?_eq_some_iff.mp hk).1]; exact hk)
theorem k_Dl {A : Nat → Prop} {a b : va_W} (h : va_D A (a ++ b)) : va_D A a := ⟨fun i j p q hi hj => h.1 i j p q (by rw [List.getElem?_append_left (List.getElem?_eq_some_iff.mp hi).1]; exact hi) (by rw [List.getElem?_append_left (List.getElem?_eq_some_iff.mp hj).1]; exact hj), fun k q hk => h.2 k q (by rw [List.getElem?_append_left (List.getElem?_eq_some_iff.mp hk).1]; exact hk)⟩
theorem k_str : ("[" ++ (FieldType.array FieldType.int).toString) = "[[I" := by decide
section KM
variable {p : Program} {l : Launch} {e : Env} {R : Room} {s : State} {m : MethodId} {args : Array Value} {below : List Frame} {meth : Method} {c : Code} {H : Heap} {locs : List Loc} {cells slots : Nat} {Q : State → Prop}
variable {cc bytes : ByteArray} {pc nL maxL index n : Nat} {ls : Array Slot} {rest st As : List Value} {D : va_G} {T : List (ClassId × FieldType)} {A : Nat → Prop} {w W0 wr : va_W} {H0 : Heap} {ret ret' : Option FieldType}
variable {y : MethodName} {fr lo mc ms : Nat} {own : String} {cy : Nat → ClassId}
theorem k_tv {x z : Value} (h : x = z) (k : W p l e R s m args below meth c H locs cells slots Q (F0 m pc ls (z :: rest))) : W p l e R s m args below meth c H locs cells slots Q (F0 m pc ls (x :: rest)) := h ▸ k
/-- new int[n][k], of which nothing is kept in the picture -/
theorem k_mna {n k : Int32} {N' K' : Nat} (hx : p.tables.exec = Jvm.exec) (hb : c.code = cc) (hown : s.vm.findClass own = some m.cls) (hclink : (Cond.classLink own index "[[I").before args s = true) (harr : (Cond.arrayClass .int).before args s = true) (hE : kE D (kTY cy) s) (hP : va_P D vwCl W0 H) (hD : va_D A W0) (hS : va_S A H0 H locs) (hA : ∀ q : Nat, H0.size ≤ q → A q) (hn : ¬ n < 0) (hk : ¬ k < 0) (hN : n.toNatClampNeg = N') (hM : k.toNatClampNeg = K')
    (hb1 : N' * 4 ≤ 536870912) (hb2 : K' * 4 ≤ 536870912) (hb3 : K' ≤ 536870912) (hcells : cells + (1 + N') ≤ R.cells) (hslots : slots + (N' + N' * K') ≤ R.slots) (hdg : decode cc pc = .ok (.multianewarray index 2, 4))
    (kk : ∀ (q : Nat) (H1 : Heap), va_P D vwCl W0 H1 → va_D A W0 → va_S A H0 H1 locs → W p l e R s m args below meth c H1 locs (cells + 1 + N') (slots + N' + N' * K') Q (F0 m (pc + 4) ls (.ref q :: rest))) : W p l e R s m args below meth c H locs cells slots Q (F0 m pc ls (.int k :: .int n :: rest)) := by
  have e0 : W0 ++ va_pl [] (fun _ => (.inl (cy 0, (0, .inl (fun _ => 0))) : va_E)) = W0 := List.append_nil W0
  refine va_mna (X := W0) (L := []) (f := fun _ => (.inl (cy 0, (0, .inl (fun _ => 0))) : va_E)) (ty := .int) (cy := cy 0) (N' := N') (K' := K') (z := (K', .inl (fun _ => 0))) hx hb hown (by rw [k_str]; exact hclink) hE.2.2.2.2 harr (hE.1.2 0 _ rfl).2 hE.1 (by rw [e0]; exact hP) (by rw [e0]; exact hD) hS hA hn hk hN hM hb1 hb2 hb3 rfl rfl hcells hslots (fun cx => by first | rfl | (rw [vp_cell_i, ← arrV_new]; rfl)) hdg (fun q r cA H1 _ _ _ hP1 hD1 hS1 => ?_)
  exact kk q H1 (k_Pl (k_Pl hP1)) (k_Dl (k_Dl hD1)) hS1
/-- a call of a static method that writes and answers nothing -/
theorem kwSV {S : Type} {post : S → Prop} {wf : S → va_W} (F : kF p s m meth c cc nL ret args own) (hE : kE D T s) (hP : va_P D vwCl W0 H) (hD : va_D A W0) (hS : va_S A H0 H locs) (hA : ∀ q : Nat, H0.size ≤ q → A q) (hl : ls.size = nL) (hM : KV l y bytes maxL fr lo D T As w post wf mc ms) (hm : Cond.methodLink own index y ∈ kGW) (hY : kMS y bytes maxL none n) (hR : fr + 1 ≤ R.frames ∧ 8 + (maxL + 11) + lo ≤ R.locals) (isC isR : List Nat) (hnC : va_nd isC = true) (hC : isC.map (fun i => W0[i]?) = w.map some) (hRr : isR.map (fun i => W0[i]?) = wr.map some) (hn1 : va_nd isR = true) (hdis : ∀ i ∈ isR, i ∉ isC) (hn : As.length = n) (hst : st = As.reverse ++ rest) (hW : (rest.map fun v => v.category).sum ≤ 8) (hf : cells + mc ≤ R.cells ∧ slots + ms ≤ R.slots) (hdg : decode cc pc = .ok (.invokestatic index, 3))
    (kk : ∀ (u : S) (H1 : Heap) (locs1 : List Loc), post u → va_P D vwCl (wr ++ wf u) H1 → va_D A (wr ++ wf u) → va_S A H0 H1 locs1 → W p l e R s m args below meth c H1 locs1 (cells + mc) (slots + ms) Q (F0 m (pc + 3) ls rest)) : W p l e R s m args below meth c H locs cells slots Q (F0 m pc ls st) := by
  obtain ⟨f1, f2, f3, f4, f5, f6, f7⟩ := F
  exact kwV (va_runS (As := As) (rest := rest) (nL := nL) ⟨f1, f2, f4, f5, f6⟩ (hM H.size) (va_cwS n f6 (k_gS hm hY) rfl rfl rfl hY.2.2.2 hR) ⟨kWc.blind, k_pre hE hP hD rfl isC hnC hC⟩ rfl hn hl hst (lv_room hW) hdg hf) hP hD hS hA isC isR hC hRr hn1 hdis kk
end KM
end
section
set_option maxHeartbeats 4000000 in
set_option maxRecDepth 100000 in
theorem c_within (l : Launch) (D : va_G) (cy : Nat → ClassId) (x0 x1 x2 : Int32) : KP l yX11_within cX11_within 3 (some .boolean) 0 0 D (kTY cy) [.int x0, .int x1, .int x2] [] (fun r => r = if x0 < x1 ∨ x2 < x0 then 0 else 1) := by
  refine KP.of (by decide) (Nat.le_of_ble_eq_true rfl) (fun p e s m below meth c ls F hE hP hl => ?_)
  have F : kF p s m meth c cX11_within 3 (some .boolean) _ RX11 := F
  obtain ⟨hx, hb, hr, hml, hown, hG, hlk⟩ := id F
  have hl : lv_has ls 3 [(0, .int x0), (1, .int x1), (2, .int x2)] := hl
  refine lv_iload_n hx hb dX11_within_0 rfl (lv_at hl 0 rfl) ?_
  refine lv_iload_n hx hb dX11_within_1 rfl (lv_at hl 1 rfl) ?_
  refine lv_icmp_lt (tgt := 14) hx hb dX11_within_2 (by decide) (fun c_1 => ?_) (fun c_1 => ?_)
  · refine lv_iconst (v := 0) hx hb dX11_within_14 (by decide) ?_
    exact KP.rt F rfl (by rw [if_pos (Or.inl c_1)]) dX11_within_15
  · refine lv_iload_n hx hb dX11_within_5 rfl (lv_at hl 0 rfl) ?_
    refine lv_iload_n hx hb dX11_within_6 rfl (lv_at hl 2 rfl) ?_
    refine lv_icmp_gt (tgt := 14) hx hb dX11_within_7 (by decide) (fun c_2 => ?_) (fun c_2 => ?_)
    · refine lv_iconst (v := 0) hx hb dX11_within_14 (by decide) ?_
      exact KP.rt F rfl (by rw [if_pos (Or.inr c_2)]) dX11_within_15
    · refine lv_iconst (v := 1) hx hb dX11_within_10 (by decide) ?_
      refine lv_goto (tgt := 15) hx hb dX11_within_11 (by decide) ?_
      exact KP.rt F rfl (by rw [if_neg (fun q => q.elim c_1 c_2)]) dX11_within_15

theorem c_within0 (l : Launch) (D : va_G) (cy : Nat → ClassId) (x0 : Int32) : KP l yX11_within cX11_within 3 (some .boolean) 0 0 D (kTY cy) [.int x0, .int 0, .int (-1)] [] (fun r => r = 0) := (c_within l D cy x0 0 (-1)).mono (fun r h => h.trans (if_pos (k_neg1 x0)))

set_option maxHeartbeats 4000000 in
set_option maxRecDepth 100000 in
theorem c_hasRing (l : Launch) (D : va_G) (cy : Nat → ClassId) (fd fc : Nat) (x0 : Int32) : KP l yX1_hasRing cX1_hasRing 2 (some .boolean) 1 22 D (kTY cy) [.ref fd, .int x0] [(fd, .inr (1, [.ref fc])), (fc, .inl (cy 0, 63, .inl (fun _ => 0)))] (fun r => r = 0) := by
  refine KP.of (by decide) (Nat.le_of_ble_eq_true rfl) (fun p e s m below meth c ls F hE hP hl => ?_)
  have F : kF p s m meth c cX1_hasRing 2 (some .boolean) _ RX1 := F
  obtain ⟨hx, hb, hr, hml, hown, hG, hlk⟩ := id F
  have hl : lv_has ls 2 [(0, .ref fd), (1, .int x0)] := hl
  refine lv_iload_n hx hb dX1_hasRing_0 rfl (lv_at hl 1 rfl) ?_
  refine lv_iconst (v := 0) hx hb dX1_hasRing_1 (by decide) ?_
  refine lv_aload_n hx hb dX1_hasRing_2 rfl (lv_at hl 0 rfl) ?_
  refine va_get (D := D) (ci := 1) (v := .ref fc) (C := RX1) (T := TX1) (N := 1) hx hb hG inG_X1 hown hE.1 hP 0 rfl rfl 0 (by decide) (hG _ q_f_X1_11) (fun _ h9 => h9) rfl dX1_hasRing_3 ?_
  refine lv_iconst (v := 3) hx hb dX1_hasRing_6 (by decide) ?_
  refine va_iald hx hb hE.1 hP 1 0 rfl rfl (by unfold vp_in; decide) dX1_hasRing_7 ?_
  refine k_top (z := 0) rfl ?_
  refine lv_iconst (v := 1) hx hb dX1_hasRing_8 (by decide) ?_
  refine lv_isub hx hb dX1_hasRing_9 ?_
  refine k_top (z := (-1)) (by decide) ?_
  refine kcSN (host := RX11) (As := [.int x0, .int 0, .int (-1)]) (rest := []) F hE hP hl.1 (c_within0 l D cy (x0 := x0)) ms_X11_within (by decide +kernel) ⟨(Nat.le_of_ble_eq_true rfl), (Nat.le_of_ble_eq_true rfl)⟩ [] rfl rfl rfl (Nat.le_of_ble_eq_true rfl) ⟨(Nat.le_of_ble_eq_true rfl), (Nat.le_of_ble_eq_true rfl)⟩ dX1_hasRing_10 (fun r_1 er_1 => ?_)
  subst er_1
  exact KP.rt F rfl (rfl) dX1_hasRing_13

set_option maxHeartbeats 4000000 in
set_option maxRecDepth 100000 in
theorem c_hasArcher (l : Launch) (D : va_G) (cy : Nat → ClassId) (fd fc : Nat) (x0 : Int32) : KP l yX1_hasArcher cX1_hasArcher 2 (some .boolean) 1 22 D (kTY cy) [.ref fd, .int x0] [(fd, .inr (1, [.ref fc])), (fc, .inl (cy 0, 63, .inl (fun _ => 0)))] (fun r => r = 0) := by
  refine KP.of (by decide) (Nat.le_of_ble_eq_true rfl) (fun p e s m below meth c ls F hE hP hl => ?_)
  have F : kF p s m meth c cX1_hasArcher 2 (some .boolean) _ RX1 := F
  obtain ⟨hx, hb, hr, hml, hown, hG, hlk⟩ := id F
  have hl : lv_has ls 2 [(0, .ref fd), (1, .int x0)] := hl
  refine lv_iload_n hx hb dX1_hasArcher_0 rfl (lv_at hl 1 rfl) ?_
  refine lv_iconst (v := 0) hx hb dX1_hasArcher_1 (by decide) ?_
  refine lv_aload_n hx hb dX1_hasArcher_2 rfl (lv_at hl 0 rfl) ?_
  refine va_get (D := D) (ci := 1) (v := .ref fc) (C := RX1) (T := TX1) (N := 1) hx hb hG inG_X1 hown hE.1 hP 0 rfl rfl 0 (by decide) (hG _ q_f_X1_11) (fun _ h9 => h9) rfl dX1_hasArcher_3 ?_
  refine lv_iconst (v := 4) hx hb dX1_hasArcher_6 (by decide) ?_
  refine va_iald hx hb hE.1 hP 1 0 rfl rfl (by unfold vp_in; decide) dX1_hasArcher_7 ?_
  refine k_top (z := 0) rfl ?_
  refine lv_iconst (v := 1) hx hb dX1_hasArcher_8 (by decide) ?_
  refine lv_isub hx hb dX1_hasArcher_9 ?_
  refine k_top (z := (-1)) (by decide) ?_
  refine kcSN (host := RX11) (As := [.int x0, .int 0, .int (-1)]) (rest := []) F hE hP hl.1 (c_within0 l D cy (x0 := x0)) ms_X11_within (by decide +kernel) ⟨(Nat.le_of_ble_eq_true rfl), (Nat.le_of_ble_eq_true rfl)⟩ [] rfl rfl rfl (Nat.le_of_ble_eq_true rfl) ⟨(Nat.le_of_ble_eq_true rfl), (Nat.le_of_ble_eq_true rfl)⟩ dX1_hasArcher_10 (fun r_1 er_1 => ?_)
  subst er_1
  exact KP.rt F rfl (rfl) dX1_hasArcher_13

set_option maxHeartbeats 4000000 in
set_option maxRecDepth 100000 in
theorem c_isTold (l : Launch) (D : va_G) (cy : Nat → ClassId) (fd fc : Nat) : KP l yX1_isTold cX1_isTold 1 (some .boolean) 0 0 D (kTY cy) [.ref fd] [(fd, .inr (1, [.ref fc])), (fc, .inl (cy 0, 63, .inl (fun _ => 0)))] (fun r => r = 0) := by
  refine KP.of (by decide) (Nat.le_of_ble_eq_true rfl) (fun p e s m below meth c ls F hE hP hl => ?_)
  have F : kF p s m meth c cX1_isTold 1 (some .boolean) _ RX1 := F
  obtain ⟨hx, hb, hr, hml, hown, hG, hlk⟩ := id F
  have hl : lv_has ls 1 [(0, .ref fd)] := hl
  refine lv_aload_n hx hb dX1_isTold_0 rfl (lv_at hl 0 rfl) ?_
  refine va_get (D := D) (ci := 1) (v := .ref fc) (C := RX1) (T := TX1) (N := 1) hx hb hG inG_X1 hown hE.1 hP 0 rfl rfl 0 (by decide) (hG _ q_f_X1_11) (fun _ h9 => h9) rfl dX1_isTold_1 ?_
  refine lv_iconst (v := 0) hx hb dX1_isTold_4 (by decide) ?_
  refine va_iald hx hb hE.1 hP 1 0 rfl rfl (by unfold vp_in; decide) dX1_isTold_5 ?_
  refine k_top (z := 0) rfl ?_
  refine lv_if_le (tgt := 13) hx hb dX1_isTold_6 (by decide) (fun _ => ?_) (fun q => absurd q (by decide))
  refine lv_iconst (v := 0) hx hb dX1_isTold_13 (by decide) ?_
  exact KP.rt F rfl (rfl) dX1_isTold_14

set_option maxHeartbeats 4000000 in
set_option maxRecDepth 100000 in
theorem c_sumOfArchers (l : Launch) (D : va_G) (cy : Nat → ClassId) (fd fc : Nat) (x0 : Int32) : KP l yX1_sumOfArchers cX1_sumOfArchers 4 (some .int) 0 0 D (kTY cy) [.ref fd, .int x0] [(fd, .inr (1, [.ref fc])), (fc, .inl (cy 0, 63, .inl (fun _ => 0)))] (fun r => r = 0) := by
  refine KP.of (by decide) (Nat.le_of_ble_eq_true rfl) (fun p e s m below meth c ls F hE hP hl => ?_)
  have F : kF p s m meth c cX1_sumOfArchers 4 (some .int) _ RX1 := F
  obtain ⟨hx, hb, hr, hml, hown, hG, hlk⟩ := id F
  have hl : lv_has ls 4 [(0, .ref fd), (1, .int x0)] := hl
  refine lv_iconst (v := 0) hx hb dX1_sumOfArchers_0 (by decide) ?_
  refine lv_istore_n (lv' := [(2, .int 0), (0, .ref fd), (1, .int x0)]) hx hb dX1_sumOfArchers_1 rfl hl (by decide) rfl (fun ls hl => ?_)
  refine lv_iconst (v := 0) hx hb dX1_sumOfArchers_2 (by decide) ?_
  refine lv_istore_n (lv' := [(3, .int 0), (2, .int 0), (0, .ref fd), (1, .int x0)]) hx hb dX1_sumOfArchers_3 rfl hl (by decide) rfl (fun ls hl => ?_)
  refine lv_iload_n hx hb dX1_sumOfArchers_4 rfl (lv_at hl 0 rfl) ?_
  refine lv_aload_n hx hb dX1_sumOfArchers_5 rfl (lv_at hl 2 rfl) ?_
  refine va_get (D := D) (ci := 1) (v := .ref fc) (C := RX1) (T := TX1) (N := 1) hx hb hG inG_X1 hown hE.1 hP 0 rfl rfl 0 (by decide) (hG _ q_f_X1_11) (fun _ h9 => h9) rfl dX1_sumOfArchers_6 ?_
  refine lv_iconst (v := 4) hx hb dX1_sumOfArchers_9 (by decide) ?_
  refine va_iald hx hb hE.1 hP 1 0 rfl rfl (by unfold vp_in; decide) dX1_sumOfArchers_10 ?_
  refine k_top (z := 0) rfl ?_
  refine lv_icmp_ge (tgt := 31) hx hb dX1_sumOfArchers_11 (by decide) (fun _ => ?_) (fun q => absurd q (by decide))
  refine lv_iload_n hx hb dX1_sumOfArchers_31 rfl (lv_at hl 1 rfl) ?_
  exact KP.rt F rfl (rfl) dX1_sumOfArchers_32

set_option maxHeartbeats 4000000 in
set_option maxRecDepth 100000 in
theorem x_ring (l : Launch) (D : va_G) (cy : Nat → ClassId) (h0 tp gr rr ru nw im ac py fo su : Nat) (fd bg nt fc : Nat) (x0 : Int32) (x1 : Int32) : KP l yX11_ring cX11_ring 3 (some .int) 2 43 D (kTY cy) [.ref h0, .int x0, .int x1] [(h0, .inr (11, [.ref tp, .ref gr, .ref rr, .ref ru, .int 0, .ref nw, .ref im, .ref ac, .ref py, .ref fo, .ref su])), (nw, .inr (4, [.ref fd, .ref bg, .ref nt, .int (-1), .int 0, .int 0])), (fd, .inr (1, [.ref fc])), (fc, .inl (cy 0, 63, .inl (fun _ => 0)))] (fun r => r = (-1)) := by
  refine KP.of (by decide) (Nat.le_of_ble_eq_true rfl) (fun p e s m below meth c ls F hE hP hl => ?_)
  have F : kF p s m meth c cX11_ring 3 (some .int) _ RX11 := F
  obtain ⟨hx, hb, hr, hml, hown, hG, hlk⟩ := id F
  have hl : lv_has ls 3 [(0, .ref h0), (1, .int x0), (2, .int x1)] := hl
  refine lv_aload_n hx hb dX11_ring_0 rfl (lv_at hl 0 rfl) ?_
  refine va_get (D := D) (ci := 11) (v := .ref nw) (C := RX11) (T := TX11) (N := 11) hx hb hG inG_X11 hown hE.1 hP 0 rfl rfl 5 (by decide) (hG _ q_f_X11_43) (fun _ h9 => h9) rfl dX11_ring_1 ?_
  refine va_get (D := D) (ci := 4) (v := .ref fd) (C := RX4) (T := TX4) (N := 6) hx hb hG inG_X4 hown hE.1 hP 1 rfl rfl 0 (by decide) (hG _ q_f_X11_111) (fun _ h9 => h9) rfl dX11_ring_4 ?_
  refine lv_iload_n hx hb dX11_ring_7 rfl (lv_at hl 1 rfl) ?_
  refine kcV (As := [.int x0]) (rest := []) F hE hP hl.1 (c_hasRing l D cy (fd := fd) (x0 := x0) (fc := fc)) q_m_X11_136 mv_X1_hasRing ⟨(Nat.le_of_ble_eq_true rfl), (Nat.le_of_ble_eq_true rfl)⟩ [2, 3] rfl rfl rfl rfl rfl rfl (Nat.le_of_ble_eq_true rfl) ⟨(Nat.le_of_ble_eq_true rfl), (Nat.le_of_ble_eq_true rfl)⟩ dX11_ring_8 (fun r_1 er_1 => ?_)
  subst er_1
  refine lv_if_ne (tgt := 16) hx hb dX11_ring_11 (by decide) (fun q => absurd q (by decide)) (fun _ => ?_)
  refine lv_iconst (v := (-1)) hx hb dX11_ring_14 (by decide) ?_
  exact KP.rt F rfl (rfl) dX11_ring_15

set_option maxHeartbeats 4000000 in
set_option maxRecDepth 100000 in
theorem x_archer (l : Launch) (D : va_G) (cy : Nat → ClassId) (h0 tp gr rr ru nw im ac py fo su : Nat) (fd bg nt fc : Nat) (x0 : Int32) (x1 : Int32) : KP l yX11_archer cX11_archer 3 (some .int) 2 43 D (kTY cy) [.ref h0, .int x0, .int x1] [(h0, .inr (11, [.ref tp, .ref gr, .ref rr, .ref ru, .int 0, .ref nw, .ref im, .ref ac, .ref py, .ref fo, .ref su])), (nw, .inr (4, [.ref fd, .ref bg, .ref nt, .int (-1), .int 0, .int 0])), (fd, .inr (1, [.ref fc])), (fc, .inl (cy 0, 63, .inl (fun _ => 0)))] (fun r => r = (-1)) := by
  refine KP.of (by decide) (Nat.le_of_ble_eq_true rfl) (fun p e s m below meth c ls F hE hP hl => ?_)
  have F : kF p s m meth c cX11_archer 3 (some .int) _ RX11 := F
  obtain ⟨hx, hb, hr, hml, hown, hG, hlk⟩ := id F
  have hl : lv_has ls 3 [(0, .ref h0), (1, .int x0), (2, .int x1)] := hl
  refine lv_aload_n hx hb dX11_archer_0 rfl (lv_at hl 0 rfl) ?_
  refine va_get (D := D) (ci := 11) (v := .ref nw) (C := RX11) (T := TX11) (N := 11) hx hb hG inG_X11 hown hE.1 hP 0 rfl rfl 5 (by decide) (hG _ q_f_X11_43) (fun _ h9 => h9) rfl dX11_archer_1 ?_
  refine va_get (D := D) (ci := 4) (v := .ref fd) (C := RX4) (T := TX4) (N := 6) hx hb hG inG_X4 hown hE.1 hP 1 rfl rfl 0 (by decide) (hG _ q_f_X11_111) (fun _ h9 => h9) rfl dX11_archer_4 ?_
  refine lv_iload_n hx hb dX11_archer_7 rfl (lv_at hl 1 rfl) ?_
  refine kcV (As := [.int x0]) (rest := []) F hE hP hl.1 (c_hasArcher l D cy (fd := fd) (x0 := x0) (fc := fc)) q_m_X11_139 mv_X1_hasArcher ⟨(Nat.le_of_ble_eq_true rfl), (Nat.le_of_ble_eq_true rfl)⟩ [2, 3] rfl rfl rfl rfl rfl rfl (Nat.le_of_ble_eq_true rfl) ⟨(Nat.le_of_ble_eq_true rfl), (Nat.le_of_ble_eq_true rfl)⟩ dX11_archer_8 (fun r_1 er_1 => ?_)
  subst er_1
  refine lv_if_ne (tgt := 16) hx hb dX11_archer_11 (by decide) (fun q => absurd q (by decide)) (fun _ => ?_)
  refine lv_iconst (v := (-1)) hx hb dX11_archer_14 (by decide) ?_
  exact KP.rt F rfl (rfl) dX11_archer_15

set_option maxHeartbeats 4000000 in
set_option maxRecDepth 100000 in
theorem x_wind (l : Launch) (D : va_G) (cy : Nat → ClassId) (h0 tp gr rr ru nw im ac py fo su : Nat) (fd bg nt fc : Nat) (x0 : Int32) : KP l yX11_wind cX11_wind 2 (some .int) 1 22 D (kTY cy) [.ref h0, .int x0] [(h0, .inr (11, [.ref tp, .ref gr, .ref rr, .ref ru, .int 0, .ref nw, .ref im, .ref ac, .ref py, .ref fo, .ref su])), (nw, .inr (4, [.ref fd, .ref bg, .ref nt, .int (-1), .int 0, .int 0])), (fd, .inr (1, [.ref fc])), (fc, .inl (cy 0, 63, .inl (fun _ => 0)))] (fun r => r = (-1)) := by
  refine KP.of (by decide) (Nat.le_of_ble_eq_true rfl) (fun p e s m below meth c ls F hE hP hl => ?_)
  have F : kF p s m meth c cX11_wind 2 (some .int) _ RX11 := F
  obtain ⟨hx, hb, hr, hml, hown, hG, hlk⟩ := id F
  have hl : lv_has ls 2 [(0, .ref h0), (1, .int x0)] := hl
  refine lv_iload_n hx hb dX11_wind_0 rfl (lv_at hl 1 rfl) ?_
  refine lv_iconst (v := 0) hx hb dX11_wind_1 (by decide) ?_
  refine lv_aload_n hx hb dX11_wind_2 rfl (lv_at hl 0 rfl) ?_
  refine va_get (D := D) (ci := 11) (v := .ref nw) (C := RX11) (T := TX11) (N := 11) hx hb hG inG_X11 hown hE.1 hP 0 rfl rfl 5 (by decide) (hG _ q_f_X11_43) (fun _ h9 => h9) rfl dX11_wind_3 ?_
  refine va_get (D := D) (ci := 4) (v := .ref fd) (C := RX4) (T := TX4) (N := 6) hx hb hG inG_X4 hown hE.1 hP 1 rfl rfl 0 (by decide) (hG _ q_f_X11_111) (fun _ h9 => h9) rfl dX11_wind_6 ?_
  refine va_get (D := D) (ci := 1) (v := .ref fc) (C := RX1) (T := TX1) (N := 1) hx hb hG inG_X1 hown hE.1 hP 2 rfl rfl 0 (by decide) (hG _ q_f_X11_124) (fun _ h9 => h9) rfl dX11_wind_9 ?_
  refine lv_iconst (v := 2) hx hb dX11_wind_12 (by decide) ?_
  refine va_iald hx hb hE.1 hP 3 0 rfl rfl (by unfold vp_in; decide) dX11_wind_13 ?_
  refine k_top (z := 0) rfl ?_
  refine lv_iconst (v := 1) hx hb dX11_wind_14 (by decide) ?_
  refine lv_isub hx hb dX11_wind_15 ?_
  refine k_top (z := (-1)) (by decide) ?_
  refine kcS (As := [.int x0, .int 0, .int (-1)]) (rest := []) F hE hP hl.1 (c_within0 l D cy (x0 := x0)) q_m_X11_90 ms_X11_within ⟨(Nat.le_of_ble_eq_true rfl), (Nat.le_of_ble_eq_true rfl)⟩ [] rfl rfl rfl (Nat.le_of_ble_eq_true rfl) ⟨(Nat.le_of_ble_eq_true rfl), (Nat.le_of_ble_eq_true rfl)⟩ dX11_wind_16 (fun r_1 er_1 => ?_)
  subst er_1
  refine lv_if_eq (tgt := 36) hx hb dX11_wind_19 (by decide) (fun _ => ?_) (fun q => absurd q (by decide))
  refine lv_iconst (v := (-1)) hx hb dX11_wind_36 (by decide) ?_
  exact KP.rt F rfl (rfl) dX11_wind_37

set_option maxHeartbeats 4000000 in
set_option maxRecDepth 100000 in
theorem x_round (l : Launch) (D : va_G) (cy : Nat → ClassId) (h0 tp gr rr ru nw im ac py fo su : Nat) (fd bg nt fc : Nat) : KP l yX11_round cX11_round 2 (some .int) 1 20 D (kTY cy) [.ref h0] [(h0, .inr (11, [.ref tp, .ref gr, .ref rr, .ref ru, .int 0, .ref nw, .ref im, .ref ac, .ref py, .ref fo, .ref su])), (nw, .inr (4, [.ref fd, .ref bg, .ref nt, .int (-1), .int 0, .int 0])), (fd, .inr (1, [.ref fc])), (fc, .inl (cy 0, 63, .inl (fun _ => 0)))] (fun r => r = (-1)) := by
  refine KP.of (by decide) (Nat.le_of_ble_eq_true rfl) (fun p e s m below meth c ls F hE hP hl => ?_)
  have F : kF p s m meth c cX11_round 2 (some .int) _ RX11 := F
  obtain ⟨hx, hb, hr, hml, hown, hG, hlk⟩ := id F
  have hl : lv_has ls 2 [(0, .ref h0)] := hl
  refine lv_aload_n hx hb dX11_round_0 rfl (lv_at hl 0 rfl) ?_
  refine va_get (D := D) (ci := 11) (v := .ref nw) (C := RX11) (T := TX11) (N := 11) hx hb hG inG_X11 hown hE.1 hP 0 rfl rfl 5 (by decide) (hG _ q_f_X11_43) (fun _ h9 => h9) rfl dX11_round_1 ?_
  refine va_get (D := D) (ci := 4) (v := .ref fd) (C := RX4) (T := TX4) (N := 6) hx hb hG inG_X4 hown hE.1 hP 1 rfl rfl 0 (by decide) (hG _ q_f_X11_111) (fun _ h9 => h9) rfl dX11_round_4 ?_
  refine kcV (As := []) (rest := []) F hE hP hl.1 (c_isTold l D cy (fd := fd) (fc := fc)) q_m_X11_152 mv_X1_isTold ⟨(Nat.le_of_ble_eq_true rfl), (Nat.le_of_ble_eq_true rfl)⟩ [2, 3] rfl rfl rfl rfl rfl rfl (Nat.le_of_ble_eq_true rfl) ⟨(Nat.le_of_ble_eq_true rfl), (Nat.le_of_ble_eq_true rfl)⟩ dX11_round_7 (fun r_1 er_1 => ?_)
  subst er_1
  refine lv_if_eq (tgt := 31) hx hb dX11_round_10 (by decide) (fun _ => ?_) (fun q => absurd q (by decide))
  refine lv_iconst (v := (-1)) hx hb dX11_round_31 (by decide) ?_
  exact KP.rt F rfl (rfl) dX11_round_32

set_option maxHeartbeats 4000000 in
set_option maxRecDepth 100000 in
theorem x_shoot (l : Launch) (D : va_G) (cy : Nat → ClassId) (h0 tp gr rr ru nw im ac py fo su : Nat) (fd bg nt fc : Nat) (x0 : Int32) (x1 : Int32) : KP l yX11_shoot cX11_shoot 4 (some .int) 2 43 D (kTY cy) [.ref h0, .int x0, .int x1] [(h0, .inr (11, [.ref tp, .ref gr, .ref rr, .ref ru, .int 0, .ref nw, .ref im, .ref ac, .ref py, .ref fo, .ref su])), (nw, .inr (4, [.ref fd, .ref bg, .ref nt, .int (-1), .int 0, .int 0])), (fd, .inr (1, [.ref fc])), (fc, .inl (cy 0, 63, .inl (fun _ => 0)))] (fun r => r = (-1)) := by
  refine KP.of (by decide) (Nat.le_of_ble_eq_true rfl) (fun p e s m below meth c ls F hE hP hl => ?_)
  have F : kF p s m meth c cX11_shoot 4 (some .int) _ RX11 := F
  obtain ⟨hx, hb, hr, hml, hown, hG, hlk⟩ := id F
  have hl : lv_has ls 4 [(0, .ref h0), (1, .int x0), (2, .int x1)] := hl
  refine lv_aload_n hx hb dX11_shoot_0 rfl (lv_at hl 0 rfl) ?_
  refine va_get (D := D) (ci := 11) (v := .ref nw) (C := RX11) (T := TX11) (N := 11) hx hb hG inG_X11 hown hE.1 hP 0 rfl rfl 5 (by decide) (hG _ q_f_X11_43) (fun _ h9 => h9) rfl dX11_shoot_1 ?_
  refine va_get (D := D) (ci := 4) (v := .ref fd) (C := RX4) (T := TX4) (N := 6) hx hb hG inG_X4 hown hE.1 hP 1 rfl rfl 0 (by decide) (hG _ q_f_X11_111) (fun _ h9 => h9) rfl dX11_shoot_4 ?_
  refine lv_astore_n (lv' := [(3, .ref fd), (0, .ref h0), (1, .int x0), (2, .int x1)]) hx hb dX11_shoot_7 rfl hl (by decide) rfl (fun ls hl => ?_)
  refine lv_aload_n hx hb dX11_shoot_8 rfl (lv_at hl 0 rfl) ?_
  refine lv_iload_n hx hb dX11_shoot_9 rfl (lv_at hl 2 rfl) ?_
  refine kcV (As := [.int x0]) (rest := []) F hE hP hl.1 (c_hasArcher l D cy (fd := fd) (x0 := x0) (fc := fc)) q_m_X11_139 mv_X1_hasArcher ⟨(Nat.le_of_ble_eq_true rfl), (Nat.le_of_ble_eq_true rfl)⟩ [2, 3] rfl rfl rfl rfl rfl rfl (Nat.le_of_ble_eq_true rfl) ⟨(Nat.le_of_ble_eq_true rfl), (Nat.le_of_ble_eq_true rfl)⟩ dX11_shoot_10 (fun r_1 er_1 => ?_)
  subst er_1
  refine lv_if_eq (tgt := 37) hx hb dX11_shoot_13 (by decide) (fun _ => ?_) (fun q => absurd q (by decide))
  refine lv_iconst (v := (-1)) hx hb dX11_shoot_37 (by decide) ?_
  exact KP.rt F rfl (rfl) dX11_shoot_38

set_option maxHeartbeats 4000000 in
set_option maxRecDepth 100000 in
theorem x_pull (l : Launch) (D : va_G) (cy : Nat → ClassId) (h0 tp gr rr ru nw im ac py fo su : Nat) (fd bg nt fc : Nat) (x0 : Int32) (x1 : Int32) : KP l yX11_pull cX11_pull 5 (some .int) 2 43 D (kTY cy) [.ref h0, .int x0, .int x1] [(h0, .inr (11, [.ref tp, .ref gr, .ref rr, .ref ru, .int 0, .ref nw, .ref im, .ref ac, .ref py, .ref fo, .ref su])), (nw, .inr (4, [.ref fd, .ref bg, .ref nt, .int (-1), .int 0, .int 0])), (fd, .inr (1, [.ref fc])), (fc, .inl (cy 0, 63, .inl (fun _ => 0)))] (fun r => r = (-1)) := by
  refine KP.of (by decide) (Nat.le_of_ble_eq_true rfl) (fun p e s m below meth c ls F hE hP hl => ?_)
  have F : kF p s m meth c cX11_pull 5 (some .int) _ RX11 := F
  obtain ⟨hx, hb, hr, hml, hown, hG, hlk⟩ := id F
  have hl : lv_has ls 5 [(0, .ref h0), (1, .int x0), (2, .int x1)] := hl
  refine lv_aload_n hx hb dX11_pull_0 rfl (lv_at hl 0 rfl) ?_
  refine va_get (D := D) (ci := 11) (v := .ref nw) (C := RX11) (T := TX11) (N := 11) hx hb hG inG_X11 hown hE.1 hP 0 rfl rfl 5 (by decide) (hG _ q_f_X11_43) (fun _ h9 => h9) rfl dX11_pull_1 ?_
  refine va_get (D := D) (ci := 4) (v := .ref fd) (C := RX4) (T := TX4) (N := 6) hx hb hG inG_X4 hown hE.1 hP 1 rfl rfl 0 (by decide) (hG _ q_f_X11_111) (fun _ h9 => h9) rfl dX11_pull_4 ?_
  refine lv_astore_n (lv' := [(3, .ref fd), (0, .ref h0), (1, .int x0), (2, .int x1)]) hx hb dX11_pull_7 rfl hl (by decide) rfl (fun ls hl => ?_)
  refine lv_aload_n hx hb dX11_pull_8 rfl (lv_at hl 0 rfl) ?_
  refine lv_iload_n hx hb dX11_pull_9 rfl (lv_at hl 2 rfl) ?_
  refine kcV (As := [.int x0]) (rest := []) F hE hP hl.1 (c_hasRing l D cy (fd := fd) (x0 := x0) (fc := fc)) q_m_X11_136 mv_X1_hasRing ⟨(Nat.le_of_ble_eq_true rfl), (Nat.le_of_ble_eq_true rfl)⟩ [2, 3] rfl rfl rfl rfl rfl rfl (Nat.le_of_ble_eq_true rfl) ⟨(Nat.le_of_ble_eq_true rfl), (Nat.le_of_ble_eq_true rfl)⟩ dX11_pull_10 (fun r_1 er_1 => ?_)
  subst er_1
  refine lv_if_eq (tgt := 37) hx hb dX11_pull_13 (by decide) (fun _ => ?_) (fun q => absurd q (by decide))
  refine lv_iconst (v := (-1)) hx hb dX11_pull_37 (by decide) ?_
  exact KP.rt F rfl (rfl) dX11_pull_38

set_option maxHeartbeats 4000000 in
set_option maxRecDepth 100000 in
theorem x_breath (l : Launch) (D : va_G) (cy : Nat → ClassId) (h0 tp gr rr ru nw im ac py fo su : Nat) (fd bg nt fc : Nat) (x0 : Int32) : KP l yX11_breath cX11_breath 3 (some .int) 1 20 D (kTY cy) [.ref h0, .int x0] [(h0, .inr (11, [.ref tp, .ref gr, .ref rr, .ref ru, .int 0, .ref nw, .ref im, .ref ac, .ref py, .ref fo, .ref su])), (nw, .inr (4, [.ref fd, .ref bg, .ref nt, .int (-1), .int 0, .int 0])), (fd, .inr (1, [.ref fc])), (fc, .inl (cy 0, 63, .inl (fun _ => 0)))] (fun r => r = (-1)) := by
  refine KP.of (by decide) (Nat.le_of_ble_eq_true rfl) (fun p e s m below meth c ls F hE hP hl => ?_)
  have F : kF p s m meth c cX11_breath 3 (some .int) _ RX11 := F
  obtain ⟨hx, hb, hr, hml, hown, hG, hlk⟩ := id F
  have hl : lv_has ls 3 [(0, .ref h0), (1, .int x0)] := hl
  refine lv_aload_n hx hb dX11_breath_0 rfl (lv_at hl 0 rfl) ?_
  refine va_get (D := D) (ci := 11) (v := .ref nw) (C := RX11) (T := TX11) (N := 11) hx hb hG inG_X11 hown hE.1 hP 0 rfl rfl 5 (by decide) (hG _ q_f_X11_43) (fun _ h9 => h9) rfl dX11_breath_1 ?_
  refine va_get (D := D) (ci := 4) (v := .ref fd) (C := RX4) (T := TX4) (N := 6) hx hb hG inG_X4 hown hE.1 hP 1 rfl rfl 0 (by decide) (hG _ q_f_X11_111) (fun _ h9 => h9) rfl dX11_breath_4 ?_
  refine lv_astore_n (lv' := [(2, .ref fd), (0, .ref h0), (1, .int x0)]) hx hb dX11_breath_7 rfl hl (by decide) rfl (fun ls hl => ?_)
  refine lv_aload_n hx hb dX11_breath_8 rfl (lv_at hl 0 rfl) ?_
  refine kcV (As := []) (rest := []) F hE hP hl.1 (c_isTold l D cy (fd := fd) (fc := fc)) q_m_X11_152 mv_X1_isTold ⟨(Nat.le_of_ble_eq_true rfl), (Nat.le_of_ble_eq_true rfl)⟩ [2, 3] rfl rfl rfl rfl rfl rfl (Nat.le_of_ble_eq_true rfl) ⟨(Nat.le_of_ble_eq_true rfl), (Nat.le_of_ble_eq_true rfl)⟩ dX11_breath_9 (fun r_1 er_1 => ?_)
  subst er_1
  refine lv_if_eq (tgt := 25) hx hb dX11_breath_12 (by decide) (fun _ => ?_) (fun q => absurd q (by decide))
  refine lv_iconst (v := (-1)) hx hb dX11_breath_25 (by decide) ?_
  exact KP.rt F rfl (rfl) dX11_breath_26

set_option maxHeartbeats 4000000 in
set_option maxRecDepth 100000 in
theorem x_teach (l : Launch) (D : va_G) (cy : Nat → ClassId) (h0 tp gr rr ru nw im ac py fo su : Nat) (fd bg nt fc : Nat) (x0 : Int32) (x1 : Int32) : KP l yX11_teach cX11_teach 5 (some .int) 2 43 D (kTY cy) [.ref h0, .int x0, .int x1] [(h0, .inr (11, [.ref tp, .ref gr, .ref rr, .ref ru, .int 0, .ref nw, .ref im, .ref ac, .ref py, .ref fo, .ref su])), (nw, .inr (4, [.ref fd, .ref bg, .ref nt, .int (-1), .int 0, .int 0])), (fd, .inr (1, [.ref fc])), (fc, .inl (cy 0, 63, .inl (fun _ => 0)))] (fun r => r = (-1)) := by
  refine KP.of (by decide) (Nat.le_of_ble_eq_true rfl) (fun p e s m below meth c ls F hE hP hl => ?_)
  have F : kF p s m meth c cX11_teach 5 (some .int) _ RX11 := F
  obtain ⟨hx, hb, hr, hml, hown, hG, hlk⟩ := id F
  have hl : lv_has ls 5 [(0, .ref h0), (1, .int x0), (2, .int x1)] := hl
  refine lv_aload_n hx hb dX11_teach_0 rfl (lv_at hl 0 rfl) ?_
  refine va_get (D := D) (ci := 11) (v := .ref nw) (C := RX11) (T := TX11) (N := 11) hx hb hG inG_X11 hown hE.1 hP 0 rfl rfl 5 (by decide) (hG _ q_f_X11_43) (fun _ h9 => h9) rfl dX11_teach_1 ?_
  refine va_get (D := D) (ci := 4) (v := .ref fd) (C := RX4) (T := TX4) (N := 6) hx hb hG inG_X4 hown hE.1 hP 1 rfl rfl 0 (by decide) (hG _ q_f_X11_111) (fun _ h9 => h9) rfl dX11_teach_4 ?_
  refine lv_astore_n (lv' := [(3, .ref fd), (0, .ref h0), (1, .int x0), (2, .int x1)]) hx hb dX11_teach_7 rfl hl (by decide) rfl (fun ls hl => ?_)
  refine lv_aload_n hx hb dX11_teach_8 rfl (lv_at hl 0 rfl) ?_
  refine lv_iload_n hx hb dX11_teach_9 rfl (lv_at hl 2 rfl) ?_
  refine kcV (As := [.int x0]) (rest := []) F hE hP hl.1 (c_hasArcher l D cy (fd := fd) (x0 := x0) (fc := fc)) q_m_X11_139 mv_X1_hasArcher ⟨(Nat.le_of_ble_eq_true rfl), (Nat.le_of_ble_eq_true rfl)⟩ [2, 3] rfl rfl rfl rfl rfl rfl (Nat.le_of_ble_eq_true rfl) ⟨(Nat.le_of_ble_eq_true rfl), (Nat.le_of_ble_eq_true rfl)⟩ dX11_teach_10 (fun r_1 er_1 => ?_)
  subst er_1
  refine lv_if_eq (tgt := 26) hx hb dX11_teach_13 (by decide) (fun _ => ?_) (fun q => absurd q (by decide))
  refine lv_iconst (v := (-1)) hx hb dX11_teach_26 (by decide) ?_
  exact KP.rt F rfl (rfl) dX11_teach_27

set_option maxHeartbeats 4000000 in
set_option maxRecDepth 100000 in
theorem x_ahead (l : Launch) (D : va_G) (cy : Nat → ClassId) (h0 tp gr rr ru nw im ac py fo su : Nat) (fd bg nt fc : Nat) (x0 : Int32) (x1 : Int32) (x2 : Int32) : KP l yX11_ahead cX11_ahead 5 (some .int) 1 20 D (kTY cy) [.ref h0, .int x0, .int x1, .int x2] [(h0, .inr (11, [.ref tp, .ref gr, .ref rr, .ref ru, .int 0, .ref nw, .ref im, .ref ac, .ref py, .ref fo, .ref su])), (nw, .inr (4, [.ref fd, .ref bg, .ref nt, .int (-1), .int 0, .int 0])), (fd, .inr (1, [.ref fc])), (fc, .inl (cy 0, 63, .inl (fun _ => 0)))] (fun r => r = (-1)) := by
  refine KP.of (by decide) (Nat.le_of_ble_eq_true rfl) (fun p e s m below meth c ls F hE hP hl => ?_)
  have F : kF p s m meth c cX11_ahead 5 (some .int) _ RX11 := F
  obtain ⟨hx, hb, hr, hml, hown, hG, hlk⟩ := id F
  have hl : lv_has ls 5 [(0, .ref h0), (1, .int x0), (2, .int x1), (3, .int x2)] := hl
  refine lv_iload_n hx hb dX11_ahead_0 rfl (lv_at hl 3 rfl) ?_
  refine lv_iconst (v := 2) hx hb dX11_ahead_1 (by decide) ?_
  refine lv_icmp_ne (tgt := 9) hx hb dX11_ahead_2 (by decide) (fun c_1 => ?_) (fun c_1 => ?_)
  · refine lv_iconst (v := 0) hx hb dX11_ahead_9 (by decide) ?_
    refine lv_istore (lv' := [(4, .int 0), (0, .ref h0), (1, .int x0), (2, .int x1), (3, .int x2)]) hx hb dX11_ahead_10 hl (by decide) rfl (fun ls hl => ?_)
    refine lv_aload_n hx hb dX11_ahead_12 rfl (lv_at hl 1 rfl) ?_
    refine va_get (D := D) (ci := 11) (v := .ref nw) (C := RX11) (T := TX11) (N := 11) hx hb hG inG_X11 hown hE.1 hP 0 rfl rfl 5 (by decide) (hG _ q_f_X11_43) (fun _ h9 => h9) rfl dX11_ahead_13 ?_
    refine va_get (D := D) (ci := 4) (v := .ref fd) (C := RX4) (T := TX4) (N := 6) hx hb hG inG_X4 hown hE.1 hP 1 rfl rfl 0 (by decide) (hG _ q_f_X11_111) (fun _ h9 => h9) rfl dX11_ahead_16 ?_
    refine kcV (As := []) (rest := []) F hE hP hl.1 (c_isTold l D cy (fd := fd) (fc := fc)) q_m_X11_152 mv_X1_isTold ⟨(Nat.le_of_ble_eq_true rfl), (Nat.le_of_ble_eq_true rfl)⟩ [2, 3] rfl rfl rfl rfl rfl rfl (Nat.le_of_ble_eq_true rfl) ⟨(Nat.le_of_ble_eq_true rfl), (Nat.le_of_ble_eq_true rfl)⟩ dX11_ahead_19 (fun r_2 er_2 => ?_)
    subst er_2
    refine lv_if_eq (tgt := 44) hx hb dX11_ahead_22 (by decide) (fun _ => ?_) (fun q => absurd q (by decide))
    refine lv_iconst (v := (-1)) hx hb dX11_ahead_44 (by decide) ?_
    exact KP.rt F rfl (rfl) dX11_ahead_45
  · refine lv_iconst (v := 1) hx hb dX11_ahead_5 (by decide) ?_
    refine lv_goto (tgt := 10) hx hb dX11_ahead_6 (by decide) ?_
    refine lv_istore (lv' := [(4, .int 1), (0, .ref h0), (1, .int x0), (2, .int x1), (3, .int x2)]) hx hb dX11_ahead_10 hl (by decide) rfl (fun ls hl => ?_)
    refine lv_aload_n hx hb dX11_ahead_12 rfl (lv_at hl 1 rfl) ?_
    refine va_get (D := D) (ci := 11) (v := .ref nw) (C := RX11) (T := TX11) (N := 11) hx hb hG inG_X11 hown hE.1 hP 0 rfl rfl 5 (by decide) (hG _ q_f_X11_43) (fun _ h9 => h9) rfl dX11_ahead_13 ?_
    refine va_get (D := D) (ci := 4) (v := .ref fd) (C := RX4) (T := TX4) (N := 6) hx hb hG inG_X4 hown hE.1 hP 1 rfl rfl 0 (by decide) (hG _ q_f_X11_111) (fun _ h9 => h9) rfl dX11_ahead_16 ?_
    refine kcV (As := []) (rest := []) F hE hP hl.1 (c_isTold l D cy (fd := fd) (fc := fc)) q_m_X11_152 mv_X1_isTold ⟨(Nat.le_of_ble_eq_true rfl), (Nat.le_of_ble_eq_true rfl)⟩ [2, 3] rfl rfl rfl rfl rfl rfl (Nat.le_of_ble_eq_true rfl) ⟨(Nat.le_of_ble_eq_true rfl), (Nat.le_of_ble_eq_true rfl)⟩ dX11_ahead_19 (fun r_3 er_3 => ?_)
    subst er_3
    refine lv_if_eq (tgt := 44) hx hb dX11_ahead_22 (by decide) (fun _ => ?_) (fun q => absurd q (by decide))
    refine lv_iconst (v := (-1)) hx hb dX11_ahead_44 (by decide) ?_
    exact KP.rt F rfl (rfl) dX11_ahead_45

set_option maxHeartbeats 4000000 in
set_option maxRecDepth 100000 in
theorem x_eased (l : Launch) (D : va_G) (cy : Nat → ClassId) (h0 tp gr rr ru nw im ac py fo su : Nat) (fd bg nt fc : Nat) (x0 : Int32) : KP l yX11_eased cX11_eased 2 (some .int) 2 43 D (kTY cy) [.ref h0, .int x0] [(h0, .inr (11, [.ref tp, .ref gr, .ref rr, .ref ru, .int 0, .ref nw, .ref im, .ref ac, .ref py, .ref fo, .ref su])), (nw, .inr (4, [.ref fd, .ref bg, .ref nt, .int (-1), .int 0, .int 0])), (fd, .inr (1, [.ref fc])), (fc, .inl (cy 0, 63, .inl (fun _ => 0)))] (fun r => r = (-1)) := by
  refine KP.of (by decide) (Nat.le_of_ble_eq_true rfl) (fun p e s m below meth c ls F hE hP hl => ?_)
  have F : kF p s m meth c cX11_eased 2 (some .int) _ RX11 := F
  obtain ⟨hx, hb, hr, hml, hown, hG, hlk⟩ := id F
  have hl : lv_has ls 2 [(0, .ref h0), (1, .int x0)] := hl
  refine lv_aload_n hx hb dX11_eased_0 rfl (lv_at hl 0 rfl) ?_
  refine va_get (D := D) (ci := 11) (v := .ref nw) (C := RX11) (T := TX11) (N := 11) hx hb hG inG_X11 hown hE.1 hP 0 rfl rfl 5 (by decide) (hG _ q_f_X11_43) (fun _ h9 => h9) rfl dX11_eased_1 ?_
  refine va_get (D := D) (ci := 4) (v := .ref fd) (C := RX4) (T := TX4) (N := 6) hx hb hG inG_X4 hown hE.1 hP 1 rfl rfl 0 (by decide) (hG _ q_f_X11_111) (fun _ h9 => h9) rfl dX11_eased_4 ?_
  refine lv_iload_n hx hb dX11_eased_7 rfl (lv_at hl 1 rfl) ?_
  refine kcV (As := [.int x0]) (rest := []) F hE hP hl.1 (c_hasArcher l D cy (fd := fd) (x0 := x0) (fc := fc)) q_m_X11_139 mv_X1_hasArcher ⟨(Nat.le_of_ble_eq_true rfl), (Nat.le_of_ble_eq_true rfl)⟩ [2, 3] rfl rfl rfl rfl rfl rfl (Nat.le_of_ble_eq_true rfl) ⟨(Nat.le_of_ble_eq_true rfl), (Nat.le_of_ble_eq_true rfl)⟩ dX11_eased_8 (fun r_1 er_1 => ?_)
  subst er_1
  refine lv_if_ne (tgt := 16) hx hb dX11_eased_11 (by decide) (fun q => absurd q (by decide)) (fun _ => ?_)
  refine lv_iconst (v := (-1)) hx hb dX11_eased_14 (by decide) ?_
  exact KP.rt F rfl (rfl) dX11_eased_15

set_option maxHeartbeats 4000000 in
set_option maxRecDepth 100000 in
theorem x_allEased (l : Launch) (D : va_G) (cy : Nat → ClassId) (h0 tp gr rr ru nw im ac py fo su : Nat) (fd bg nt fc : Nat) : KP l yX11_allEased cX11_allEased 1 (some .int) 1 20 D (kTY cy) [.ref h0] [(h0, .inr (11, [.ref tp, .ref gr, .ref rr, .ref ru, .int 0, .ref nw, .ref im, .ref ac, .ref py, .ref fo, .ref su])), (nw, .inr (4, [.ref fd, .ref bg, .ref nt, .int (-1), .int 0, .int 0])), (fd, .inr (1, [.ref fc])), (fc, .inl (cy 0, 63, .inl (fun _ => 0)))] (fun r => r = (-1)) := by
  refine KP.of (by decide) (Nat.le_of_ble_eq_true rfl) (fun p e s m below meth c ls F hE hP hl => ?_)
  have F : kF p s m meth c cX11_allEased 1 (some .int) _ RX11 := F
  obtain ⟨hx, hb, hr, hml, hown, hG, hlk⟩ := id F
  have hl : lv_has ls 1 [(0, .ref h0)] := hl
  refine lv_aload_n hx hb dX11_allEased_0 rfl (lv_at hl 0 rfl) ?_
  refine va_get (D := D) (ci := 11) (v := .ref nw) (C := RX11) (T := TX11) (N := 11) hx hb hG inG_X11 hown hE.1 hP 0 rfl rfl 5 (by decide) (hG _ q_f_X11_43) (fun _ h9 => h9) rfl dX11_allEased_1 ?_
  refine va_get (D := D) (ci := 4) (v := .ref fd) (C := RX4) (T := TX4) (N := 6) hx hb hG inG_X4 hown hE.1 hP 1 rfl rfl 0 (by decide) (hG _ q_f_X11_111) (fun _ h9 => h9) rfl dX11_allEased_4 ?_
  refine kcV (As := []) (rest := []) F hE hP hl.1 (c_isTold l D cy (fd := fd) (fc := fc)) q_m_X11_152 mv_X1_isTold ⟨(Nat.le_of_ble_eq_true rfl), (Nat.le_of_ble_eq_true rfl)⟩ [2, 3] rfl rfl rfl rfl rfl rfl (Nat.le_of_ble_eq_true rfl) ⟨(Nat.le_of_ble_eq_true rfl), (Nat.le_of_ble_eq_true rfl)⟩ dX11_allEased_7 (fun r_1 er_1 => ?_)
  subst er_1
  refine lv_if_ne (tgt := 15) hx hb dX11_allEased_10 (by decide) (fun q => absurd q (by decide)) (fun _ => ?_)
  refine lv_iconst (v := (-1)) hx hb dX11_allEased_13 (by decide) ?_
  exact KP.rt F rfl (rfl) dX11_allEased_14

set_option maxHeartbeats 4000000 in
set_option maxRecDepth 100000 in
theorem x_down (l : Launch) (D : va_G) (cy : Nat → ClassId) (h0 tp gr rr ru nw im ac py fo su : Nat) (fd bg nt fc : Nat) (x0 : Int32) (x1 : Int32) : KP l yX11_down cX11_down 4 (some .int) 2 43 D (kTY cy) [.ref h0, .int x0, .int x1] [(h0, .inr (11, [.ref tp, .ref gr, .ref rr, .ref ru, .int 0, .ref nw, .ref im, .ref ac, .ref py, .ref fo, .ref su])), (nw, .inr (4, [.ref fd, .ref bg, .ref nt, .int (-1), .int 0, .int 0])), (fd, .inr (1, [.ref fc])), (fc, .inl (cy 0, 63, .inl (fun _ => 0)))] (fun r => r = (-1)) := by
  refine KP.of (by decide) (Nat.le_of_ble_eq_true rfl) (fun p e s m below meth c ls F hE hP hl => ?_)
  have F : kF p s m meth c cX11_down 4 (some .int) _ RX11 := F
  obtain ⟨hx, hb, hr, hml, hown, hG, hlk⟩ := id F
  have hl : lv_has ls 4 [(0, .ref h0), (1, .int x0), (2, .int x1)] := hl
  refine lv_aload_n hx hb dX11_down_0 rfl (lv_at hl 0 rfl) ?_
  refine va_get (D := D) (ci := 11) (v := .ref nw) (C := RX11) (T := TX11) (N := 11) hx hb hG inG_X11 hown hE.1 hP 0 rfl rfl 5 (by decide) (hG _ q_f_X11_43) (fun _ h9 => h9) rfl dX11_down_1 ?_
  refine va_get (D := D) (ci := 4) (v := .ref fd) (C := RX4) (T := TX4) (N := 6) hx hb hG inG_X4 hown hE.1 hP 1 rfl rfl 0 (by decide) (hG _ q_f_X11_111) (fun _ h9 => h9) rfl dX11_down_4 ?_
  refine lv_astore_n (lv' := [(3, .ref fd), (0, .ref h0), (1, .int x0), (2, .int x1)]) hx hb dX11_down_7 rfl hl (by decide) rfl (fun ls hl => ?_)
  refine lv_aload_n hx hb dX11_down_8 rfl (lv_at hl 0 rfl) ?_
  refine lv_iload_n hx hb dX11_down_9 rfl (lv_at hl 2 rfl) ?_
  refine kcV (As := [.int x0]) (rest := []) F hE hP hl.1 (c_hasArcher l D cy (fd := fd) (x0 := x0) (fc := fc)) q_m_X11_139 mv_X1_hasArcher ⟨(Nat.le_of_ble_eq_true rfl), (Nat.le_of_ble_eq_true rfl)⟩ [2, 3] rfl rfl rfl rfl rfl rfl (Nat.le_of_ble_eq_true rfl) ⟨(Nat.le_of_ble_eq_true rfl), (Nat.le_of_ble_eq_true rfl)⟩ dX11_down_10 (fun r_1 er_1 => ?_)
  subst er_1
  refine lv_if_eq (tgt := 24) hx hb dX11_down_13 (by decide) (fun _ => ?_) (fun q => absurd q (by decide))
  refine lv_iconst (v := (-1)) hx hb dX11_down_24 (by decide) ?_
  exact KP.rt F rfl (rfl) dX11_down_25

set_option maxHeartbeats 4000000 in
set_option maxRecDepth 100000 in
theorem x_bestAim (l : Launch) (D : va_G) (cy : Nat → ClassId) (h0 tp gr rr ru nw im ac py fo su : Nat) (fd bg nt fc : Nat) (x0 : Int32) (x1 : Int32) : KP l yX11_bestAim cX11_bestAim 7 (some .int) 2 43 D (kTY cy) [.ref h0, .int x0, .int x1] [(h0, .inr (11, [.ref tp, .ref gr, .ref rr, .ref ru, .int 0, .ref nw, .ref im, .ref ac, .ref py, .ref fo, .ref su])), (nw, .inr (4, [.ref fd, .ref bg, .ref nt, .int (-1), .int 0, .int 0])), (fd, .inr (1, [.ref fc])), (fc, .inl (cy 0, 63, .inl (fun _ => 0)))] (fun r => r = (-2)) := by
  refine KP.of (by decide) (Nat.le_of_ble_eq_true rfl) (fun p e s m below meth c ls F hE hP hl => ?_)
  have F : kF p s m meth c cX11_bestAim 7 (some .int) _ RX11 := F
  obtain ⟨hx, hb, hr, hml, hown, hG, hlk⟩ := id F
  have hl : lv_has ls 7 [(0, .ref h0), (1, .int x0), (2, .int x1)] := hl
  refine lv_aload_n hx hb dX11_bestAim_0 rfl (lv_at hl 0 rfl) ?_
  refine va_get (D := D) (ci := 11) (v := .ref nw) (C := RX11) (T := TX11) (N := 11) hx hb hG inG_X11 hown hE.1 hP 0 rfl rfl 5 (by decide) (hG _ q_f_X11_43) (fun _ h9 => h9) rfl dX11_bestAim_1 ?_
  refine va_get (D := D) (ci := 4) (v := .ref fd) (C := RX4) (T := TX4) (N := 6) hx hb hG inG_X4 hown hE.1 hP 1 rfl rfl 0 (by decide) (hG _ q_f_X11_111) (fun _ h9 => h9) rfl dX11_bestAim_4 ?_
  refine lv_astore_n (lv' := [(3, .ref fd), (0, .ref h0), (1, .int x0), (2, .int x1)]) hx hb dX11_bestAim_7 rfl hl (by decide) rfl (fun ls hl => ?_)
  refine lv_aload_n hx hb dX11_bestAim_8 rfl (lv_at hl 0 rfl) ?_
  refine lv_iload_n hx hb dX11_bestAim_9 rfl (lv_at hl 2 rfl) ?_
  refine kcV (As := [.int x0]) (rest := []) F hE hP hl.1 (c_hasArcher l D cy (fd := fd) (x0 := x0) (fc := fc)) q_m_X11_139 mv_X1_hasArcher ⟨(Nat.le_of_ble_eq_true rfl), (Nat.le_of_ble_eq_true rfl)⟩ [2, 3] rfl rfl rfl rfl rfl rfl (Nat.le_of_ble_eq_true rfl) ⟨(Nat.le_of_ble_eq_true rfl), (Nat.le_of_ble_eq_true rfl)⟩ dX11_bestAim_10 (fun r_1 er_1 => ?_)
  subst er_1
  refine lv_if_eq (tgt := 25) hx hb dX11_bestAim_13 (by decide) (fun _ => ?_) (fun q => absurd q (by decide))
  refine lv_bipush (v := (-2)) hx hb dX11_bestAim_25 (by decide) ?_
  exact KP.rt F rfl (rfl) dX11_bestAim_27

set_option maxHeartbeats 4000000 in
set_option maxRecDepth 100000 in
theorem x_row (l : Launch) (D : va_G) (cy : Nat → ClassId) (h0 tp gr rr ru nw im ac py fo su : Nat) (fd bg nt fc : Nat) (x0 : Int32) (x1 : Int32) (x2 : Int32) : KP l yX11_row cX11_row 4 (some .int) 2 43 D (kTY cy) [.ref h0, .int x0, .int x1, .int x2] [(h0, .inr (11, [.ref tp, .ref gr, .ref rr, .ref ru, .int 0, .ref nw, .ref im, .ref ac, .ref py, .ref fo, .ref su])), (nw, .inr (4, [.ref fd, .ref bg, .ref nt, .int (-1), .int 0, .int 0])), (fd, .inr (1, [.ref fc])), (fc, .inl (cy 0, 63, .inl (fun _ => 0)))] (fun r => r = (-3)) := by
  refine KP.of (by decide) (Nat.le_of_ble_eq_true rfl) (fun p e s m below meth c ls F hE hP hl => ?_)
  have F : kF p s m meth c cX11_row 4 (some .int) _ RX11 := F
  obtain ⟨hx, hb, hr, hml, hown, hG, hlk⟩ := id F
  have hl : lv_has ls 4 [(0, .ref h0), (1, .int x0), (2, .int x1), (3, .int x2)] := hl
  refine lv_aload_n hx hb dX11_row_0 rfl (lv_at hl 0 rfl) ?_
  refine va_get (D := D) (ci := 11) (v := .ref nw) (C := RX11) (T := TX11) (N := 11) hx hb hG inG_X11 hown hE.1 hP 0 rfl rfl 5 (by decide) (hG _ q_f_X11_43) (fun _ h9 => h9) rfl dX11_row_1 ?_
  refine va_get (D := D) (ci := 4) (v := .ref fd) (C := RX4) (T := TX4) (N := 6) hx hb hG inG_X4 hown hE.1 hP 1 rfl rfl 0 (by decide) (hG _ q_f_X11_111) (fun _ h9 => h9) rfl dX11_row_4 ?_
  refine lv_iload_n hx hb dX11_row_7 rfl (lv_at hl 1 rfl) ?_
  refine kcV (As := [.int x0]) (rest := []) F hE hP hl.1 (c_hasArcher l D cy (fd := fd) (x0 := x0) (fc := fc)) q_m_X11_139 mv_X1_hasArcher ⟨(Nat.le_of_ble_eq_true rfl), (Nat.le_of_ble_eq_true rfl)⟩ [2, 3] rfl rfl rfl rfl rfl rfl (Nat.le_of_ble_eq_true rfl) ⟨(Nat.le_of_ble_eq_true rfl), (Nat.le_of_ble_eq_true rfl)⟩ dX11_row_8 (fun r_1 er_1 => ?_)
  subst er_1
  refine lv_if_eq (tgt := 32) hx hb dX11_row_11 (by decide) (fun _ => ?_) (fun q => absurd q (by decide))
  refine lv_bipush (v := (-3)) hx hb dX11_row_32 (by decide) ?_
  exact KP.rt F rfl (rfl) dX11_row_34

set_option maxHeartbeats 4000000 in
set_option maxRecDepth 100000 in
theorem x_hold (l : Launch) (D : va_G) (cy : Nat → ClassId) (h0 tp gr rr ru nw im ac py fo su : Nat) (fd bg nt fc : Nat) (x0 : Int32) : KP l yX11_hold cX11_hold 5 (some .int) 2 43 D (kTY cy) [.ref h0, .int x0] [(h0, .inr (11, [.ref tp, .ref gr, .ref rr, .ref ru, .int 0, .ref nw, .ref im, .ref ac, .ref py, .ref fo, .ref su])), (nw, .inr (4, [.ref fd, .ref bg, .ref nt, .int (-1), .int 0, .int 0])), (fd, .inr (1, [.ref fc])), (fc, .inl (cy 0, 63, .inl (fun _ => 0)))] (fun r => r = (-1)) := by
  refine KP.of (by decide) (Nat.le_of_ble_eq_true rfl) (fun p e s m below meth c ls F hE hP hl => ?_)
  have F : kF p s m meth c cX11_hold 5 (some .int) _ RX11 := F
  obtain ⟨hx, hb, hr, hml, hown, hG, hlk⟩ := id F
  have hl : lv_has ls 5 [(0, .ref h0), (1, .int x0)] := hl
  refine lv_aload_n hx hb dX11_hold_0 rfl (lv_at hl 0 rfl) ?_
  refine va_get (D := D) (ci := 11) (v := .ref nw) (C := RX11) (T := TX11) (N := 11) hx hb hG inG_X11 hown hE.1 hP 0 rfl rfl 5 (by decide) (hG _ q_f_X11_43) (fun _ h9 => h9) rfl dX11_hold_1 ?_
  refine va_get (D := D) (ci := 4) (v := .ref fd) (C := RX4) (T := TX4) (N := 6) hx hb hG inG_X4 hown hE.1 hP 1 rfl rfl 0 (by decide) (hG _ q_f_X11_111) (fun _ h9 => h9) rfl dX11_hold_4 ?_
  refine lv_astore_n (lv' := [(2, .ref fd), (0, .ref h0), (1, .int x0)]) hx hb dX11_hold_7 rfl hl (by decide) rfl (fun ls hl => ?_)
  refine lv_aload_n hx hb dX11_hold_8 rfl (lv_at hl 0 rfl) ?_
  refine lv_iload_n hx hb dX11_hold_9 rfl (lv_at hl 2 rfl) ?_
  refine kcV (As := [.int x0]) (rest := []) F hE hP hl.1 (c_hasArcher l D cy (fd := fd) (x0 := x0) (fc := fc)) q_m_X11_139 mv_X1_hasArcher ⟨(Nat.le_of_ble_eq_true rfl), (Nat.le_of_ble_eq_true rfl)⟩ [2, 3] rfl rfl rfl rfl rfl rfl (Nat.le_of_ble_eq_true rfl) ⟨(Nat.le_of_ble_eq_true rfl), (Nat.le_of_ble_eq_true rfl)⟩ dX11_hold_10 (fun r_1 er_1 => ?_)
  subst er_1
  refine lv_if_ne (tgt := 18) hx hb dX11_hold_13 (by decide) (fun q => absurd q (by decide)) (fun _ => ?_)
  refine lv_iconst (v := (-1)) hx hb dX11_hold_16 (by decide) ?_
  exact KP.rt F rfl (rfl) dX11_hold_17

set_option maxHeartbeats 4000000 in
set_option maxRecDepth 100000 in
theorem x_leastSkill (l : Launch) (D : va_G) (cy : Nat → ClassId) (h0 tp gr rr ru nw im ac py fo su : Nat) (fd bg nt fc : Nat) (x0 : Int32) (x1 : Int32) : KP l yX11_leastSkill cX11_leastSkill 4 (some .int) 2 43 D (kTY cy) [.ref h0, .int x0, .int x1] [(h0, .inr (11, [.ref tp, .ref gr, .ref rr, .ref ru, .int 0, .ref nw, .ref im, .ref ac, .ref py, .ref fo, .ref su])), (nw, .inr (4, [.ref fd, .ref bg, .ref nt, .int (-1), .int 0, .int 0])), (fd, .inr (1, [.ref fc])), (fc, .inl (cy 0, 63, .inl (fun _ => 0)))] (fun r => r = (-1)) := by
  refine KP.of (by decide) (Nat.le_of_ble_eq_true rfl) (fun p e s m below meth c ls F hE hP hl => ?_)
  have F : kF p s m meth c cX11_leastSkill 4 (some .int) _ RX11 := F
  obtain ⟨hx, hb, hr, hml, hown, hG, hlk⟩ := id F
  have hl : lv_has ls 4 [(0, .ref h0), (1, .int x0), (2, .int x1)] := hl
  refine lv_aload_n hx hb dX11_leastSkill_0 rfl (lv_at hl 0 rfl) ?_
  refine va_get (D := D) (ci := 11) (v := .ref nw) (C := RX11) (T := TX11) (N := 11) hx hb hG inG_X11 hown hE.1 hP 0 rfl rfl 5 (by decide) (hG _ q_f_X11_43) (fun _ h9 => h9) rfl dX11_leastSkill_1 ?_
  refine va_get (D := D) (ci := 4) (v := .ref fd) (C := RX4) (T := TX4) (N := 6) hx hb hG inG_X4 hown hE.1 hP 1 rfl rfl 0 (by decide) (hG _ q_f_X11_111) (fun _ h9 => h9) rfl dX11_leastSkill_4 ?_
  refine lv_iload_n hx hb dX11_leastSkill_7 rfl (lv_at hl 1 rfl) ?_
  refine kcV (As := [.int x0]) (rest := []) F hE hP hl.1 (c_hasArcher l D cy (fd := fd) (x0 := x0) (fc := fc)) q_m_X11_139 mv_X1_hasArcher ⟨(Nat.le_of_ble_eq_true rfl), (Nat.le_of_ble_eq_true rfl)⟩ [2, 3] rfl rfl rfl rfl rfl rfl (Nat.le_of_ble_eq_true rfl) ⟨(Nat.le_of_ble_eq_true rfl), (Nat.le_of_ble_eq_true rfl)⟩ dX11_leastSkill_8 (fun r_1 er_1 => ?_)
  subst er_1
  refine lv_if_eq (tgt := 24) hx hb dX11_leastSkill_11 (by decide) (fun _ => ?_) (fun q => absurd q (by decide))
  refine lv_iconst (v := (-1)) hx hb dX11_leastSkill_24 (by decide) ?_
  exact KP.rt F rfl (rfl) dX11_leastSkill_25

set_option maxHeartbeats 4000000 in
set_option maxRecDepth 100000 in
theorem x_set (l : Launch) (D : va_G) (cy : Nat → ClassId) (h0 tp gr rr ru nw im ac py fo su : Nat) (fd bg nt fc : Nat) (x0 : Int32) (x1 : Int32) (x2 : Int32) : KP l yX11_set cX11_set 4 (some .int) 2 43 D (kTY cy) [.ref h0, .int x0, .int x1, .int x2] [(h0, .inr (11, [.ref tp, .ref gr, .ref rr, .ref ru, .int 0, .ref nw, .ref im, .ref ac, .ref py, .ref fo, .ref su])), (nw, .inr (4, [.ref fd, .ref bg, .ref nt, .int (-1), .int 0, .int 0])), (fd, .inr (1, [.ref fc])), (fc, .inl (cy 0, 63, .inl (fun _ => 0)))] (fun r => r = (-1)) := by
  refine KP.of (by decide) (Nat.le_of_ble_eq_true rfl) (fun p e s m below meth c ls F hE hP hl => ?_)
  have F : kF p s m meth c cX11_set 4 (some .int) _ RX11 := F
  obtain ⟨hx, hb, hr, hml, hown, hG, hlk⟩ := id F
  have hl : lv_has ls 4 [(0, .ref h0), (1, .int x0), (2, .int x1), (3, .int x2)] := hl
  refine lv_aload_n hx hb dX11_set_0 rfl (lv_at hl 0 rfl) ?_
  refine va_get (D := D) (ci := 11) (v := .ref nw) (C := RX11) (T := TX11) (N := 11) hx hb hG inG_X11 hown hE.1 hP 0 rfl rfl 5 (by decide) (hG _ q_f_X11_43) (fun _ h9 => h9) rfl dX11_set_1 ?_
  refine va_get (D := D) (ci := 4) (v := .ref fd) (C := RX4) (T := TX4) (N := 6) hx hb hG inG_X4 hown hE.1 hP 1 rfl rfl 0 (by decide) (hG _ q_f_X11_111) (fun _ h9 => h9) rfl dX11_set_4 ?_
  refine lv_iload_n hx hb dX11_set_7 rfl (lv_at hl 1 rfl) ?_
  refine kcV (As := [.int x0]) (rest := []) F hE hP hl.1 (c_hasRing l D cy (fd := fd) (x0 := x0) (fc := fc)) q_m_X11_136 mv_X1_hasRing ⟨(Nat.le_of_ble_eq_true rfl), (Nat.le_of_ble_eq_true rfl)⟩ [2, 3] rfl rfl rfl rfl rfl rfl (Nat.le_of_ble_eq_true rfl) ⟨(Nat.le_of_ble_eq_true rfl), (Nat.le_of_ble_eq_true rfl)⟩ dX11_set_8 (fun r_1 er_1 => ?_)
  subst er_1
  refine lv_if_eq (tgt := 33) hx hb dX11_set_11 (by decide) (fun _ => ?_) (fun q => absurd q (by decide))
  refine lv_iconst (v := (-1)) hx hb dX11_set_33 (by decide) ?_
  exact KP.rt F rfl (rfl) dX11_set_34

set_option maxHeartbeats 4000000 in
set_option maxRecDepth 100000 in
theorem x_given (l : Launch) (D : va_G) (cy : Nat → ClassId) (h0 tp gr rr ru nw im ac py fo su : Nat) (fd bg nt fc : Nat) (x0 : Int32) (x1 : Int32) : KP l yX11_given cX11_given 3 (some .int) 1 20 D (kTY cy) [.ref h0, .int x0, .int x1] [(h0, .inr (11, [.ref tp, .ref gr, .ref rr, .ref ru, .int 0, .ref nw, .ref im, .ref ac, .ref py, .ref fo, .ref su])), (nw, .inr (4, [.ref fd, .ref bg, .ref nt, .int (-1), .int 0, .int 0])), (fd, .inr (1, [.ref fc])), (fc, .inl (cy 0, 63, .inl (fun _ => 0)))] (fun r => r = (-2)) := by
  refine KP.of (by decide) (Nat.le_of_ble_eq_true rfl) (fun p e s m below meth c ls F hE hP hl => ?_)
  have F : kF p s m meth c cX11_given 3 (some .int) _ RX11 := F
  obtain ⟨hx, hb, hr, hml, hown, hG, hlk⟩ := id F
  have hl : lv_has ls 3 [(0, .ref h0), (1, .int x0), (2, .int x1)] := hl
  refine lv_aload_n hx hb dX11_given_0 rfl (lv_at hl 0 rfl) ?_
  refine va_get (D := D) (ci := 11) (v := .ref nw) (C := RX11) (T := TX11) (N := 11) hx hb hG inG_X11 hown hE.1 hP 0 rfl rfl 5 (by decide) (hG _ q_f_X11_43) (fun _ h9 => h9) rfl dX11_given_1 ?_
  refine va_get (D := D) (ci := 4) (v := .ref fd) (C := RX4) (T := TX4) (N := 6) hx hb hG inG_X4 hown hE.1 hP 1 rfl rfl 0 (by decide) (hG _ q_f_X11_111) (fun _ h9 => h9) rfl dX11_given_4 ?_
  refine kcV (As := []) (rest := []) F hE hP hl.1 (c_isTold l D cy (fd := fd) (fc := fc)) q_m_X11_152 mv_X1_isTold ⟨(Nat.le_of_ble_eq_true rfl), (Nat.le_of_ble_eq_true rfl)⟩ [2, 3] rfl rfl rfl rfl rfl rfl (Nat.le_of_ble_eq_true rfl) ⟨(Nat.le_of_ble_eq_true rfl), (Nat.le_of_ble_eq_true rfl)⟩ dX11_given_7 (fun r_1 er_1 => ?_)
  subst er_1
  refine lv_if_eq (tgt := 32) hx hb dX11_given_10 (by decide) (fun _ => ?_) (fun q => absurd q (by decide))
  refine lv_bipush (v := (-2)) hx hb dX11_given_32 (by decide) ?_
  exact KP.rt F rfl (rfl) dX11_given_34

set_option maxHeartbeats 4000000 in
set_option maxRecDepth 100000 in
theorem x_rests (l : Launch) (D : va_G) (cy : Nat → ClassId) (h0 tp gr rr ru nw im ac py fo su : Nat) (fd bg nt fc : Nat) (x0 : Int32) (x1 : Int32) (x2 : Int32) (x3 : Int32) : KP l yX11_rests cX11_rests 5 (some .int) 2 43 D (kTY cy) [.ref h0, .int x0, .int x1, .int x2, .int x3] [(h0, .inr (11, [.ref tp, .ref gr, .ref rr, .ref ru, .int 0, .ref nw, .ref im, .ref ac, .ref py, .ref fo, .ref su])), (nw, .inr (4, [.ref fd, .ref bg, .ref nt, .int (-1), .int 0, .int 0])), (fd, .inr (1, [.ref fc])), (fc, .inl (cy 0, 63, .inl (fun _ => 0)))] (fun r => r = (-1)) := by
  refine KP.of (by decide) (Nat.le_of_ble_eq_true rfl) (fun p e s m below meth c ls F hE hP hl => ?_)
  have F : kF p s m meth c cX11_rests 5 (some .int) _ RX11 := F
  obtain ⟨hx, hb, hr, hml, hown, hG, hlk⟩ := id F
  have hl : lv_has ls 5 [(0, .ref h0), (1, .int x0), (2, .int x1), (3, .int x2), (4, .int x3)] := hl
  refine lv_aload_n hx hb dX11_rests_0 rfl (lv_at hl 0 rfl) ?_
  refine va_get (D := D) (ci := 11) (v := .ref nw) (C := RX11) (T := TX11) (N := 11) hx hb hG inG_X11 hown hE.1 hP 0 rfl rfl 5 (by decide) (hG _ q_f_X11_43) (fun _ h9 => h9) rfl dX11_rests_1 ?_
  refine va_get (D := D) (ci := 4) (v := .ref fd) (C := RX4) (T := TX4) (N := 6) hx hb hG inG_X4 hown hE.1 hP 1 rfl rfl 0 (by decide) (hG _ q_f_X11_111) (fun _ h9 => h9) rfl dX11_rests_4 ?_
  refine lv_iload_n hx hb dX11_rests_7 rfl (lv_at hl 1 rfl) ?_
  refine kcV (As := [.int x0]) (rest := []) F hE hP hl.1 (c_hasArcher l D cy (fd := fd) (x0 := x0) (fc := fc)) q_m_X11_139 mv_X1_hasArcher ⟨(Nat.le_of_ble_eq_true rfl), (Nat.le_of_ble_eq_true rfl)⟩ [2, 3] rfl rfl rfl rfl rfl rfl (Nat.le_of_ble_eq_true rfl) ⟨(Nat.le_of_ble_eq_true rfl), (Nat.le_of_ble_eq_true rfl)⟩ dX11_rests_8 (fun r_1 er_1 => ?_)
  subst er_1
  refine lv_if_eq (tgt := 33) hx hb dX11_rests_11 (by decide) (fun _ => ?_) (fun q => absurd q (by decide))
  refine lv_iconst (v := (-1)) hx hb dX11_rests_33 (by decide) ?_
  exact KP.rt F rfl (rfl) dX11_rests_34

set_option maxHeartbeats 4000000 in
set_option maxRecDepth 100000 in
theorem x_pence (l : Launch) (D : va_G) (cy : Nat → ClassId) (h0 tp gr rr ru nw im ac py fo su : Nat) (fd bg nt fc : Nat) (x0 : Int32) (x1 : Int32) : KP l yX11_pence cX11_pence 3 (some .int) 2 43 D (kTY cy) [.ref h0, .int x0, .int x1] [(h0, .inr (11, [.ref tp, .ref gr, .ref rr, .ref ru, .int 0, .ref nw, .ref im, .ref ac, .ref py, .ref fo, .ref su])), (nw, .inr (4, [.ref fd, .ref bg, .ref nt, .int (-1), .int 0, .int 0])), (fd, .inr (1, [.ref fc])), (fc, .inl (cy 0, 63, .inl (fun _ => 0)))] (fun r => r = (-1)) := by
  refine KP.of (by decide) (Nat.le_of_ble_eq_true rfl) (fun p e s m below meth c ls F hE hP hl => ?_)
  have F : kF p s m meth c cX11_pence 3 (some .int) _ RX11 := F
  obtain ⟨hx, hb, hr, hml, hown, hG, hlk⟩ := id F
  have hl : lv_has ls 3 [(0, .ref h0), (1, .int x0), (2, .int x1)] := hl
  refine lv_iload_n hx hb dX11_pence_0 rfl (lv_at hl 1 rfl) ?_
  refine lv_iconst (v := 0) hx hb dX11_pence_1 (by decide) ?_
  refine lv_sipush (v := 9999) hx hb dX11_pence_2 (by decide) ?_
  refine kcS (As := [.int x0, .int 0, .int 9999]) (rest := []) F hE hP hl.1 (c_within l D cy (x0 := x0) (x1 := 0) (x2 := 9999)) q_m_X11_90 ms_X11_within ⟨(Nat.le_of_ble_eq_true rfl), (Nat.le_of_ble_eq_true rfl)⟩ [] rfl rfl rfl (Nat.le_of_ble_eq_true rfl) ⟨(Nat.le_of_ble_eq_true rfl), (Nat.le_of_ble_eq_true rfl)⟩ dX11_pence_5 (fun r_1 er_1 => ?_)
  refine lv_if_eq (tgt := 25) hx hb dX11_pence_8 (by decide) (fun c_2 => ?_) (fun c_2 => ?_)
  · refine lv_iconst (v := (-1)) hx hb dX11_pence_25 (by decide) ?_
    exact KP.rt F rfl (rfl) dX11_pence_26
  · refine lv_aload_n hx hb dX11_pence_11 rfl (lv_at hl 0 rfl) ?_
    refine va_get (D := D) (ci := 11) (v := .ref nw) (C := RX11) (T := TX11) (N := 11) hx hb hG inG_X11 hown hE.1 hP 0 rfl rfl 5 (by decide) (hG _ q_f_X11_43) (fun _ h9 => h9) rfl dX11_pence_12 ?_
    refine va_get (D := D) (ci := 4) (v := .ref fd) (C := RX4) (T := TX4) (N := 6) hx hb hG inG_X4 hown hE.1 hP 1 rfl rfl 0 (by decide) (hG _ q_f_X11_111) (fun _ h9 => h9) rfl dX11_pence_15 ?_
    refine lv_iload_n hx hb dX11_pence_18 rfl (lv_at hl 2 rfl) ?_
    refine kcV (As := [.int x1]) (rest := []) F hE hP hl.1 (c_hasRing l D cy (fd := fd) (x0 := x1) (fc := fc)) q_m_X11_136 mv_X1_hasRing ⟨(Nat.le_of_ble_eq_true rfl), (Nat.le_of_ble_eq_true rfl)⟩ [2, 3] rfl rfl rfl rfl rfl rfl (Nat.le_of_ble_eq_true rfl) ⟨(Nat.le_of_ble_eq_true rfl), (Nat.le_of_ble_eq_true rfl)⟩ dX11_pence_19 (fun r_3 er_3 => ?_)
    subst er_3
    refine lv_if_ne (tgt := 27) hx hb dX11_pence_22 (by decide) (fun q => absurd q (by decide)) (fun _ => ?_)
    refine lv_iconst (v := (-1)) hx hb dX11_pence_25 (by decide) ?_
    exact KP.rt F rfl (rfl) dX11_pence_26

set_option maxHeartbeats 4000000 in
set_option maxRecDepth 100000 in
theorem x_skilled (l : Launch) (D : va_G) (cy : Nat → ClassId) (h0 tp gr rr ru nw im ac py fo su : Nat) (fd bg nt fc : Nat) (x0 : Int32) : KP l yX11_skilled cX11_skilled 2 (some .int) 2 43 D (kTY cy) [.ref h0, .int x0] [(h0, .inr (11, [.ref tp, .ref gr, .ref rr, .ref ru, .int 0, .ref nw, .ref im, .ref ac, .ref py, .ref fo, .ref su])), (nw, .inr (4, [.ref fd, .ref bg, .ref nt, .int (-1), .int 0, .int 0])), (fd, .inr (1, [.ref fc])), (fc, .inl (cy 0, 63, .inl (fun _ => 0)))] (fun r => r = (-1)) := by
  refine KP.of (by decide) (Nat.le_of_ble_eq_true rfl) (fun p e s m below meth c ls F hE hP hl => ?_)
  have F : kF p s m meth c cX11_skilled 2 (some .int) _ RX11 := F
  obtain ⟨hx, hb, hr, hml, hown, hG, hlk⟩ := id F
  have hl : lv_has ls 2 [(0, .ref h0), (1, .int x0)] := hl
  refine lv_aload_n hx hb dX11_skilled_0 rfl (lv_at hl 0 rfl) ?_
  refine va_get (D := D) (ci := 11) (v := .ref nw) (C := RX11) (T := TX11) (N := 11) hx hb hG inG_X11 hown hE.1 hP 0 rfl rfl 5 (by decide) (hG _ q_f_X11_43) (fun _ h9 => h9) rfl dX11_skilled_1 ?_
  refine va_get (D := D) (ci := 4) (v := .ref fd) (C := RX4) (T := TX4) (N := 6) hx hb hG inG_X4 hown hE.1 hP 1 rfl rfl 0 (by decide) (hG _ q_f_X11_111) (fun _ h9 => h9) rfl dX11_skilled_4 ?_
  refine lv_iload_n hx hb dX11_skilled_7 rfl (lv_at hl 1 rfl) ?_
  refine kcV (As := [.int x0]) (rest := []) F hE hP hl.1 (c_hasArcher l D cy (fd := fd) (x0 := x0) (fc := fc)) q_m_X11_139 mv_X1_hasArcher ⟨(Nat.le_of_ble_eq_true rfl), (Nat.le_of_ble_eq_true rfl)⟩ [2, 3] rfl rfl rfl rfl rfl rfl (Nat.le_of_ble_eq_true rfl) ⟨(Nat.le_of_ble_eq_true rfl), (Nat.le_of_ble_eq_true rfl)⟩ dX11_skilled_8 (fun r_1 er_1 => ?_)
  subst er_1
  refine lv_if_ne (tgt := 16) hx hb dX11_skilled_11 (by decide) (fun q => absurd q (by decide)) (fun _ => ?_)
  refine lv_iconst (v := (-1)) hx hb dX11_skilled_14 (by decide) ?_
  exact KP.rt F rfl (rfl) dX11_skilled_15

set_option maxHeartbeats 4000000 in
set_option maxRecDepth 100000 in
theorem x_ails (l : Launch) (D : va_G) (cy : Nat → ClassId) (h0 tp gr rr ru nw im ac py fo su : Nat) (fd bg nt fc : Nat) (x0 : Int32) : KP l yX11_ails cX11_ails 3 (some .int) 2 43 D (kTY cy) [.ref h0, .int x0] [(h0, .inr (11, [.ref tp, .ref gr, .ref rr, .ref ru, .int 0, .ref nw, .ref im, .ref ac, .ref py, .ref fo, .ref su])), (nw, .inr (4, [.ref fd, .ref bg, .ref nt, .int (-1), .int 0, .int 0])), (fd, .inr (1, [.ref fc])), (fc, .inl (cy 0, 63, .inl (fun _ => 0)))] (fun r => r = (-1)) := by
  refine KP.of (by decide) (Nat.le_of_ble_eq_true rfl) (fun p e s m below meth c ls F hE hP hl => ?_)
  have F : kF p s m meth c cX11_ails 3 (some .int) _ RX11 := F
  obtain ⟨hx, hb, hr, hml, hown, hG, hlk⟩ := id F
  have hl : lv_has ls 3 [(0, .ref h0), (1, .int x0)] := hl
  refine lv_aload_n hx hb dX11_ails_0 rfl (lv_at hl 0 rfl) ?_
  refine va_get (D := D) (ci := 11) (v := .ref nw) (C := RX11) (T := TX11) (N := 11) hx hb hG inG_X11 hown hE.1 hP 0 rfl rfl 5 (by decide) (hG _ q_f_X11_43) (fun _ h9 => h9) rfl dX11_ails_1 ?_
  refine va_get (D := D) (ci := 4) (v := .ref fd) (C := RX4) (T := TX4) (N := 6) hx hb hG inG_X4 hown hE.1 hP 1 rfl rfl 0 (by decide) (hG _ q_f_X11_111) (fun _ h9 => h9) rfl dX11_ails_4 ?_
  refine lv_iload_n hx hb dX11_ails_7 rfl (lv_at hl 1 rfl) ?_
  refine kcV (As := [.int x0]) (rest := []) F hE hP hl.1 (c_hasArcher l D cy (fd := fd) (x0 := x0) (fc := fc)) q_m_X11_139 mv_X1_hasArcher ⟨(Nat.le_of_ble_eq_true rfl), (Nat.le_of_ble_eq_true rfl)⟩ [2, 3] rfl rfl rfl rfl rfl rfl (Nat.le_of_ble_eq_true rfl) ⟨(Nat.le_of_ble_eq_true rfl), (Nat.le_of_ble_eq_true rfl)⟩ dX11_ails_8 (fun r_1 er_1 => ?_)
  subst er_1
  refine lv_if_ne (tgt := 16) hx hb dX11_ails_11 (by decide) (fun q => absurd q (by decide)) (fun _ => ?_)
  refine lv_iconst (v := (-1)) hx hb dX11_ails_14 (by decide) ?_
  exact KP.rt F rfl (rfl) dX11_ails_15

set_option maxHeartbeats 4000000 in
set_option maxRecDepth 100000 in
theorem x_ruled (l : Launch) (D : va_G) (cy : Nat → ClassId) (h0 tp gr rr ru nw im ac py fo su : Nat) (fd bg nt fc : Nat) (x0 : Int32) : KP l yX11_ruled cX11_ruled 2 (some .int) 1 20 D (kTY cy) [.ref h0, .int x0] [(h0, .inr (11, [.ref tp, .ref gr, .ref rr, .ref ru, .int 0, .ref nw, .ref im, .ref ac, .ref py, .ref fo, .ref su])), (nw, .inr (4, [.ref fd, .ref bg, .ref nt, .int (-1), .int 0, .int 0])), (fd, .inr (1, [.ref fc])), (fc, .inl (cy 0, 63, .inl (fun _ => 0)))] (fun r => r = (-3)) := by
  refine KP.of (by decide) (Nat.le_of_ble_eq_true rfl) (fun p e s m below meth c ls F hE hP hl => ?_)
  have F : kF p s m meth c cX11_ruled 2 (some .int) _ RX11 := F
  obtain ⟨hx, hb, hr, hml, hown, hG, hlk⟩ := id F
  have hl : lv_has ls 2 [(0, .ref h0), (1, .int x0)] := hl
  refine lv_aload_n hx hb dX11_ruled_0 rfl (lv_at hl 0 rfl) ?_
  refine va_get (D := D) (ci := 11) (v := .ref nw) (C := RX11) (T := TX11) (N := 11) hx hb hG inG_X11 hown hE.1 hP 0 rfl rfl 5 (by decide) (hG _ q_f_X11_43) (fun _ h9 => h9) rfl dX11_ruled_1 ?_
  refine va_get (D := D) (ci := 4) (v := .ref fd) (C := RX4) (T := TX4) (N := 6) hx hb hG inG_X4 hown hE.1 hP 1 rfl rfl 0 (by decide) (hG _ q_f_X11_111) (fun _ h9 => h9) rfl dX11_ruled_4 ?_
  refine kcV (As := []) (rest := []) F hE hP hl.1 (c_isTold l D cy (fd := fd) (fc := fc)) q_m_X11_152 mv_X1_isTold ⟨(Nat.le_of_ble_eq_true rfl), (Nat.le_of_ble_eq_true rfl)⟩ [2, 3] rfl rfl rfl rfl rfl rfl (Nat.le_of_ble_eq_true rfl) ⟨(Nat.le_of_ble_eq_true rfl), (Nat.le_of_ble_eq_true rfl)⟩ dX11_ruled_7 (fun r_1 er_1 => ?_)
  subst er_1
  refine lv_if_eq (tgt := 22) hx hb dX11_ruled_10 (by decide) (fun _ => ?_) (fun q => absurd q (by decide))
  refine lv_bipush (v := (-3)) hx hb dX11_ruled_22 (by decide) ?_
  exact KP.rt F rfl (rfl) dX11_ruled_24

set_option maxHeartbeats 4000000 in
set_option maxRecDepth 100000 in
theorem x_look (l : Launch) (D : va_G) (cy : Nat → ClassId) (h0 tp gr rr ru nw im ac py fo su : Nat) (fd bg nt fc : Nat) (x0 : Int32) (x1 : Int32) : KP l yX11_look cX11_look 5 (some .int) 1 20 D (kTY cy) [.ref h0, .int x0, .int x1] [(h0, .inr (11, [.ref tp, .ref gr, .ref rr, .ref ru, .int 0, .ref nw, .ref im, .ref ac, .ref py, .ref fo, .ref su])), (nw, .inr (4, [.ref fd, .ref bg, .ref nt, .int (-1), .int 0, .int 0])), (fd, .inr (1, [.ref fc])), (fc, .inl (cy 0, 63, .inl (fun _ => 0)))] (fun r => r = (-1)) := by
  refine KP.of (by decide) (Nat.le_of_ble_eq_true rfl) (fun p e s m below meth c ls F hE hP hl => ?_)
  have F : kF p s m meth c cX11_look 5 (some .int) _ RX11 := F
  obtain ⟨hx, hb, hr, hml, hown, hG, hlk⟩ := id F
  have hl : lv_has ls 5 [(0, .ref h0), (1, .int x0), (2, .int x1)] := hl
  refine lv_aload_n hx hb dX11_look_0 rfl (lv_at hl 0 rfl) ?_
  refine va_get (D := D) (ci := 11) (v := .ref nw) (C := RX11) (T := TX11) (N := 11) hx hb hG inG_X11 hown hE.1 hP 0 rfl rfl 5 (by decide) (hG _ q_f_X11_43) (fun _ h9 => h9) rfl dX11_look_1 ?_
  refine va_get (D := D) (ci := 4) (v := .ref fd) (C := RX4) (T := TX4) (N := 6) hx hb hG inG_X4 hown hE.1 hP 1 rfl rfl 0 (by decide) (hG _ q_f_X11_111) (fun _ h9 => h9) rfl dX11_look_4 ?_
  refine kcV (As := []) (rest := []) F hE hP hl.1 (c_isTold l D cy (fd := fd) (fc := fc)) q_m_X11_152 mv_X1_isTold ⟨(Nat.le_of_ble_eq_true rfl), (Nat.le_of_ble_eq_true rfl)⟩ [2, 3] rfl rfl rfl rfl rfl rfl (Nat.le_of_ble_eq_true rfl) ⟨(Nat.le_of_ble_eq_true rfl), (Nat.le_of_ble_eq_true rfl)⟩ dX11_look_7 (fun r_1 er_1 => ?_)
  subst er_1
  refine lv_if_eq (tgt := 32) hx hb dX11_look_10 (by decide) (fun _ => ?_) (fun q => absurd q (by decide))
  refine lv_iconst (v := (-1)) hx hb dX11_look_32 (by decide) ?_
  exact KP.rt F rfl (rfl) dX11_look_33

set_option maxHeartbeats 4000000 in
set_option maxRecDepth 100000 in
theorem x_gusts (l : Launch) (D : va_G) (cy : Nat → ClassId) (h0 tp gr rr ru nw im ac py fo su : Nat) (fd bg nt fc : Nat) (x0 : Int32) (x1 : Int32) (x2 : Int32) (x3 : Int32) : KP l yX11_gusts cX11_gusts 8 (some .int) 1 20 D (kTY cy) [.ref h0, .int x0, .int x1, .int x2, .int x3] [(h0, .inr (11, [.ref tp, .ref gr, .ref rr, .ref ru, .int 0, .ref nw, .ref im, .ref ac, .ref py, .ref fo, .ref su])), (nw, .inr (4, [.ref fd, .ref bg, .ref nt, .int (-1), .int 0, .int 0])), (fd, .inr (1, [.ref fc])), (fc, .inl (cy 0, 63, .inl (fun _ => 0)))] (fun r => r = (-1)) := by
  refine KP.of (by decide) (Nat.le_of_ble_eq_true rfl) (fun p e s m below meth c ls F hE hP hl => ?_)
  have F : kF p s m meth c cX11_gusts 8 (some .int) _ RX11 := F
  obtain ⟨hx, hb, hr, hml, hown, hG, hlk⟩ := id F
  have hl : lv_has ls 8 [(0, .ref h0), (1, .int x0), (2, .int x1), (3, .int x2), (4, .int x3)] := hl
  refine lv_aload_n hx hb dX11_gusts_0 rfl (lv_at hl 0 rfl) ?_
  refine va_get (D := D) (ci := 11) (v := .ref nw) (C := RX11) (T := TX11) (N := 11) hx hb hG inG_X11 hown hE.1 hP 0 rfl rfl 5 (by decide) (hG _ q_f_X11_43) (fun _ h9 => h9) rfl dX11_gusts_1 ?_
  refine va_get (D := D) (ci := 4) (v := .ref fd) (C := RX4) (T := TX4) (N := 6) hx hb hG inG_X4 hown hE.1 hP 1 rfl rfl 0 (by decide) (hG _ q_f_X11_111) (fun _ h9 => h9) rfl dX11_gusts_4 ?_
  refine kcV (As := []) (rest := []) F hE hP hl.1 (c_isTold l D cy (fd := fd) (fc := fc)) q_m_X11_152 mv_X1_isTold ⟨(Nat.le_of_ble_eq_true rfl), (Nat.le_of_ble_eq_true rfl)⟩ [2, 3] rfl rfl rfl rfl rfl rfl (Nat.le_of_ble_eq_true rfl) ⟨(Nat.le_of_ble_eq_true rfl), (Nat.le_of_ble_eq_true rfl)⟩ dX11_gusts_7 (fun r_1 er_1 => ?_)
  subst er_1
  refine lv_if_eq (tgt := 33) hx hb dX11_gusts_10 (by decide) (fun _ => ?_) (fun q => absurd q (by decide))
  refine lv_iconst (v := (-1)) hx hb dX11_gusts_33 (by decide) ?_
  exact KP.rt F rfl (rfl) dX11_gusts_34

set_option maxHeartbeats 4000000 in
set_option maxRecDepth 100000 in
theorem x_undo (l : Launch) (D : va_G) (cy : Nat → ClassId) (h0 tp gr rr ru nw im ac py fo su : Nat) (aw : Nat) : KP l yX11_undo cX11_undo 1 (some .int) 0 0 D (kTY cy) [.ref h0] [(h0, .inr (11, [.ref tp, .ref gr, .ref rr, .ref ru, .int 0, .ref nw, .ref im, .ref ac, .ref py, .ref fo, .ref su])), (ac, .inr (0, [.ref aw, .int 0, .int 0]))] (fun r => r = -1) := by
  refine KP.of (by decide) (Nat.le_of_ble_eq_true rfl) (fun p e s m below meth c ls F hE hP hl => ?_)
  have F : kF p s m meth c cX11_undo 1 (some .int) _ RX11 := F
  obtain ⟨hx, hb, hr, hml, hown, hG, hlk⟩ := id F
  have hl : lv_has ls 1 [(0, .ref h0)] := hl
  refine lv_aload_n hx hb dX11_undo_0 rfl (lv_at hl 0 rfl) ?_
  refine va_get (D := D) (ci := 11) (v := .ref ac) (C := RX11) (T := TX11) (N := 11) hx hb hG inG_X11 hown hE.1 hP 0 rfl rfl 7 (by decide) (hG _ q_f_X11_54) (fun _ h9 => h9) rfl dX11_undo_1 ?_
  refine va_get (D := D) (ci := 0) (v := .int 0) (C := RX0) (T := TX0) (N := 3) hx hb hG inG_X0 hown hE.1 hP 1 rfl rfl 2 (by decide) (hG _ q_f_X11_123) (fun _ h9 => h9) rfl dX11_undo_4 ?_
  refine lv_iconst (v := 1) hx hb dX11_undo_7 (by decide) ?_
  refine lv_icmp_ge (tgt := 13) hx hb dX11_undo_8 (by decide) (fun q => absurd q (by decide)) (fun _ => ?_)
  refine lv_iconst (v := (-1)) hx hb dX11_undo_11 (by decide) ?_
  exact KP.rt F rfl (rfl) dX11_undo_12

/-- what count answers of a new object -/
def k_cnt (x : Int32) : Int32 := if x = 6 then -1 else if x = 0 ∨ x = 1 ∨ x = 2 ∨ x = 3 ∨ x = 4 ∨ x = 5 ∨ x = 7 ∨ x = 8 ∨ x = 9 ∨ x = 10 ∨ x = 11 ∨ x = 12 ∨ x = 13 ∨ x = 14 ∨ x = 15 then 0 else -1

set_option maxHeartbeats 4000000 in
set_option maxRecDepth 100000 in
theorem x_count (l : Launch) (D : va_G) (cy : Nat → ClassId) (h0 tp gr rr ru nw im ac py fo su : Nat) (fd bg nt fc : Nat) (n1 n2 n3 aw tby tki tva tpl : Nat) (x0 : Int32) : KP l yX11_count cX11_count 2 (some .int) 1 23 D (kTY cy) [.ref h0, .int x0] [(h0, .inr (11, [.ref tp, .ref gr, .ref rr, .ref ru, .int 0, .ref nw, .ref im, .ref ac, .ref py, .ref fo, .ref su])), (nw, .inr (4, [.ref fd, .ref bg, .ref nt, .int (-1), .int 0, .int 0])), (fd, .inr (1, [.ref fc])), (fc, .inl (cy 0, 63, .inl (fun _ => 0))), (nt, .inr (5, [.ref n1, .ref n2, .ref n3, .int 0])), (ac, .inr (0, [.ref aw, .int 0, .int 0])), (tp, .inr (10, [.ref tby, .int 0, .ref tki, .ref tva, .ref tpl, .int 0, .int 0, .int 0, .int 0, .int 0, .int 0]))] (fun r => r = k_cnt x0) := by
  refine KP.of (by decide) (Nat.le_of_ble_eq_true rfl) (fun p e s m below meth c ls F hE hP hl => ?_)
  have F : kF p s m meth c cX11_count 2 (some .int) _ RX11 := F
  obtain ⟨hx, hb, hr, hml, hown, hG, hlk⟩ := id F
  have hl : lv_has ls 2 [(0, .ref h0), (1, .int x0)] := hl
  refine lv_iload_n hx hb dX11_count_0 rfl (lv_at hl 1 rfl) ?_
  by_cases c_1 : x0 = 0
  · subst c_1
    refine lv_tableIn (off := 79) (tgt := 80) hx hb dX11_count_1 (by decide) (by decide) rfl (by decide) ?_
    refine lv_aload_n hx hb dX11_count_80 rfl (lv_at hl 0 rfl) ?_
    refine va_get (D := D) (ci := 11) (v := .ref nw) (C := RX11) (T := TX11) (N := 11) hx hb hG inG_X11 hown hE.1 hP 0 rfl rfl 5 (by decide) (hG _ q_f_X11_43) (fun _ h9 => h9) rfl dX11_count_81 ?_
    refine va_get (D := D) (ci := 4) (v := .ref fd) (C := RX4) (T := TX4) (N := 6) hx hb hG inG_X4 hown hE.1 hP 1 rfl rfl 0 (by decide) (hG _ q_f_X11_111) (fun _ h9 => h9) rfl dX11_count_84 ?_
    refine va_get (D := D) (ci := 1) (v := .ref fc) (C := RX1) (T := TX1) (N := 1) hx hb hG inG_X1 hown hE.1 hP 2 rfl rfl 0 (by decide) (hG _ q_f_X11_124) (fun _ h9 => h9) rfl dX11_count_87 ?_
    refine lv_iconst (v := 0) hx hb dX11_count_90 (by decide) ?_
    refine va_iald hx hb hE.1 hP 3 0 rfl rfl (by unfold vp_in; decide) dX11_count_91 ?_
    refine k_top (z := 0) rfl ?_
    exact KP.rt F rfl (by decide) dX11_count_92
  by_cases c_2 : x0 = 1
  · subst c_2
    refine lv_tableIn (off := 92) (tgt := 93) hx hb dX11_count_1 (by decide) (by decide) rfl (by decide) ?_
    refine lv_aload_n hx hb dX11_count_93 rfl (lv_at hl 0 rfl) ?_
    refine va_get (D := D) (ci := 11) (v := .ref nw) (C := RX11) (T := TX11) (N := 11) hx hb hG inG_X11 hown hE.1 hP 0 rfl rfl 5 (by decide) (hG _ q_f_X11_43) (fun _ h9 => h9) rfl dX11_count_94 ?_
    refine va_get (D := D) (ci := 4) (v := .ref fd) (C := RX4) (T := TX4) (N := 6) hx hb hG inG_X4 hown hE.1 hP 1 rfl rfl 0 (by decide) (hG _ q_f_X11_111) (fun _ h9 => h9) rfl dX11_count_97 ?_
    refine va_get (D := D) (ci := 1) (v := .ref fc) (C := RX1) (T := TX1) (N := 1) hx hb hG inG_X1 hown hE.1 hP 2 rfl rfl 0 (by decide) (hG _ q_f_X11_124) (fun _ h9 => h9) rfl dX11_count_100 ?_
    refine lv_iconst (v := 1) hx hb dX11_count_103 (by decide) ?_
    refine va_iald hx hb hE.1 hP 3 0 rfl rfl (by unfold vp_in; decide) dX11_count_104 ?_
    refine k_top (z := 0) rfl ?_
    exact KP.rt F rfl (by decide) dX11_count_105
  by_cases c_3 : x0 = 2
  · subst c_3
    refine lv_tableIn (off := 105) (tgt := 106) hx hb dX11_count_1 (by decide) (by decide) rfl (by decide) ?_
    refine lv_aload_n hx hb dX11_count_106 rfl (lv_at hl 0 rfl) ?_
    refine va_get (D := D) (ci := 11) (v := .ref nw) (C := RX11) (T := TX11) (N := 11) hx hb hG inG_X11 hown hE.1 hP 0 rfl rfl 5 (by decide) (hG _ q_f_X11_43) (fun _ h9 => h9) rfl dX11_count_107 ?_
    refine va_get (D := D) (ci := 4) (v := .ref fd) (C := RX4) (T := TX4) (N := 6) hx hb hG inG_X4 hown hE.1 hP 1 rfl rfl 0 (by decide) (hG _ q_f_X11_111) (fun _ h9 => h9) rfl dX11_count_110 ?_
    refine va_get (D := D) (ci := 1) (v := .ref fc) (C := RX1) (T := TX1) (N := 1) hx hb hG inG_X1 hown hE.1 hP 2 rfl rfl 0 (by decide) (hG _ q_f_X11_124) (fun _ h9 => h9) rfl dX11_count_113 ?_
    refine lv_iconst (v := 2) hx hb dX11_count_116 (by decide) ?_
    refine va_iald hx hb hE.1 hP 3 0 rfl rfl (by unfold vp_in; decide) dX11_count_117 ?_
    refine k_top (z := 0) rfl ?_
    exact KP.rt F rfl (by decide) dX11_count_118
  by_cases c_4 : x0 = 3
  · subst c_4
    refine lv_tableIn (off := 118) (tgt := 119) hx hb dX11_count_1 (by decide) (by decide) rfl (by decide) ?_
    refine lv_aload_n hx hb dX11_count_119 rfl (lv_at hl 0 rfl) ?_
    refine va_get (D := D) (ci := 11) (v := .ref nw) (C := RX11) (T := TX11) (N := 11) hx hb hG inG_X11 hown hE.1 hP 0 rfl rfl 5 (by decide) (hG _ q_f_X11_43) (fun _ h9 => h9) rfl dX11_count_120 ?_
    refine va_get (D := D) (ci := 4) (v := .ref fd) (C := RX4) (T := TX4) (N := 6) hx hb hG inG_X4 hown hE.1 hP 1 rfl rfl 0 (by decide) (hG _ q_f_X11_111) (fun _ h9 => h9) rfl dX11_count_123 ?_
    refine va_get (D := D) (ci := 1) (v := .ref fc) (C := RX1) (T := TX1) (N := 1) hx hb hG inG_X1 hown hE.1 hP 2 rfl rfl 0 (by decide) (hG _ q_f_X11_124) (fun _ h9 => h9) rfl dX11_count_126 ?_
    refine lv_iconst (v := 3) hx hb dX11_count_129 (by decide) ?_
    refine va_iald hx hb hE.1 hP 3 0 rfl rfl (by unfold vp_in; decide) dX11_count_130 ?_
    refine k_top (z := 0) rfl ?_
    exact KP.rt F rfl (by decide) dX11_count_131
  by_cases c_5 : x0 = 4
  · subst c_5
    refine lv_tableIn (off := 131) (tgt := 132) hx hb dX11_count_1 (by decide) (by decide) rfl (by decide) ?_
    refine lv_aload_n hx hb dX11_count_132 rfl (lv_at hl 0 rfl) ?_
    refine va_get (D := D) (ci := 11) (v := .ref nw) (C := RX11) (T := TX11) (N := 11) hx hb hG inG_X11 hown hE.1 hP 0 rfl rfl 5 (by decide) (hG _ q_f_X11_43) (fun _ h9 => h9) rfl dX11_count_133 ?_
    refine va_get (D := D) (ci := 4) (v := .ref fd) (C := RX4) (T := TX4) (N := 6) hx hb hG inG_X4 hown hE.1 hP 1 rfl rfl 0 (by decide) (hG _ q_f_X11_111) (fun _ h9 => h9) rfl dX11_count_136 ?_
    refine va_get (D := D) (ci := 1) (v := .ref fc) (C := RX1) (T := TX1) (N := 1) hx hb hG inG_X1 hown hE.1 hP 2 rfl rfl 0 (by decide) (hG _ q_f_X11_124) (fun _ h9 => h9) rfl dX11_count_139 ?_
    refine lv_iconst (v := 4) hx hb dX11_count_142 (by decide) ?_
    refine va_iald hx hb hE.1 hP 3 0 rfl rfl (by unfold vp_in; decide) dX11_count_143 ?_
    refine k_top (z := 0) rfl ?_
    exact KP.rt F rfl (by decide) dX11_count_144
  by_cases c_6 : x0 = 5
  · subst c_6
    refine lv_tableIn (off := 144) (tgt := 145) hx hb dX11_count_1 (by decide) (by decide) rfl (by decide) ?_
    refine lv_aload_n hx hb dX11_count_145 rfl (lv_at hl 0 rfl) ?_
    refine va_get (D := D) (ci := 11) (v := .int 0) (C := RX11) (T := TX11) (N := 11) hx hb hG inG_X11 hown hE.1 hP 0 rfl rfl 4 (by decide) (hG _ q_f_X11_36) (fun _ h9 => h9) rfl dX11_count_146 ?_
    exact KP.rt F rfl (by decide) dX11_count_149
  by_cases c_7 : x0 = 6
  · subst c_7
    refine lv_tableIn (off := 149) (tgt := 150) hx hb dX11_count_1 (by decide) (by decide) rfl (by decide) ?_
    refine lv_aload_n hx hb dX11_count_150 rfl (lv_at hl 0 rfl) ?_
    refine va_get (D := D) (ci := 11) (v := .ref nw) (C := RX11) (T := TX11) (N := 11) hx hb hG inG_X11 hown hE.1 hP 0 rfl rfl 5 (by decide) (hG _ q_f_X11_43) (fun _ h9 => h9) rfl dX11_count_151 ?_
    refine va_get (D := D) (ci := 4) (v := .int (-1)) (C := RX4) (T := TX4) (N := 6) hx hb hG inG_X4 hown hE.1 hP 1 rfl rfl 3 (by decide) (hG _ q_f_X11_133) (fun _ h9 => h9) rfl dX11_count_154 ?_
    exact KP.rt F rfl (by decide) dX11_count_157
  by_cases c_8 : x0 = 7
  · subst c_8
    refine lv_tableIn (off := 157) (tgt := 158) hx hb dX11_count_1 (by decide) (by decide) rfl (by decide) ?_
    refine lv_aload_n hx hb dX11_count_158 rfl (lv_at hl 0 rfl) ?_
    refine va_get (D := D) (ci := 11) (v := .ref nw) (C := RX11) (T := TX11) (N := 11) hx hb hG inG_X11 hown hE.1 hP 0 rfl rfl 5 (by decide) (hG _ q_f_X11_43) (fun _ h9 => h9) rfl dX11_count_159 ?_
    refine va_get (D := D) (ci := 4) (v := .ref fd) (C := RX4) (T := TX4) (N := 6) hx hb hG inG_X4 hown hE.1 hP 1 rfl rfl 0 (by decide) (hG _ q_f_X11_111) (fun _ h9 => h9) rfl dX11_count_162 ?_
    refine va_get (D := D) (ci := 1) (v := .ref fc) (C := RX1) (T := TX1) (N := 1) hx hb hG inG_X1 hown hE.1 hP 2 rfl rfl 0 (by decide) (hG _ q_f_X11_124) (fun _ h9 => h9) rfl dX11_count_165 ?_
    refine lv_iconst (v := 5) hx hb dX11_count_168 (by decide) ?_
    refine va_iald hx hb hE.1 hP 3 0 rfl rfl (by unfold vp_in; decide) dX11_count_169 ?_
    refine k_top (z := 0) rfl ?_
    exact KP.rt F rfl (by decide) dX11_count_170
  by_cases c_9 : x0 = 8
  · subst c_9
    refine lv_tableIn (off := 170) (tgt := 171) hx hb dX11_count_1 (by decide) (by decide) rfl (by decide) ?_
    refine lv_aload_n hx hb dX11_count_171 rfl (lv_at hl 0 rfl) ?_
    refine va_get (D := D) (ci := 11) (v := .ref nw) (C := RX11) (T := TX11) (N := 11) hx hb hG inG_X11 hown hE.1 hP 0 rfl rfl 5 (by decide) (hG _ q_f_X11_43) (fun _ h9 => h9) rfl dX11_count_172 ?_
    refine va_get (D := D) (ci := 4) (v := .ref fd) (C := RX4) (T := TX4) (N := 6) hx hb hG inG_X4 hown hE.1 hP 1 rfl rfl 0 (by decide) (hG _ q_f_X11_111) (fun _ h9 => h9) rfl dX11_count_175 ?_
    refine va_get (D := D) (ci := 1) (v := .ref fc) (C := RX1) (T := TX1) (N := 1) hx hb hG inG_X1 hown hE.1 hP 2 rfl rfl 0 (by decide) (hG _ q_f_X11_124) (fun _ h9 => h9) rfl dX11_count_178 ?_
    refine lv_bipush (v := 6) hx hb dX11_count_181 (by decide) ?_
    refine va_iald hx hb hE.1 hP 3 0 rfl rfl (by unfold vp_in; decide) dX11_count_183 ?_
    refine k_top (z := 0) rfl ?_
    exact KP.rt F rfl (by decide) dX11_count_184
  by_cases c_10 : x0 = 9
  · subst c_10
    refine lv_tableIn (off := 184) (tgt := 185) hx hb dX11_count_1 (by decide) (by decide) rfl (by decide) ?_
    refine lv_aload_n hx hb dX11_count_185 rfl (lv_at hl 0 rfl) ?_
    refine va_get (D := D) (ci := 11) (v := .ref nw) (C := RX11) (T := TX11) (N := 11) hx hb hG inG_X11 hown hE.1 hP 0 rfl rfl 5 (by decide) (hG _ q_f_X11_43) (fun _ h9 => h9) rfl dX11_count_186 ?_
    refine va_get (D := D) (ci := 4) (v := .ref fd) (C := RX4) (T := TX4) (N := 6) hx hb hG inG_X4 hown hE.1 hP 1 rfl rfl 0 (by decide) (hG _ q_f_X11_111) (fun _ h9 => h9) rfl dX11_count_189 ?_
    refine lv_bipush (v := 53) hx hb dX11_count_192 (by decide) ?_
    refine kcV (As := [.int 53]) (rest := []) F hE hP hl.1 (c_sumOfArchers l D cy (fd := fd) (x0 := 53) (fc := fc)) q_m_X11_146 mv_X1_sumOfArchers ⟨(Nat.le_of_ble_eq_true rfl), (Nat.le_of_ble_eq_true rfl)⟩ [2, 3] rfl rfl rfl rfl rfl rfl (Nat.le_of_ble_eq_true rfl) ⟨(Nat.le_of_ble_eq_true rfl), (Nat.le_of_ble_eq_true rfl)⟩ dX11_count_194 (fun r_11 er_11 => ?_)
    subst er_11
    exact KP.rt F rfl (by decide) dX11_count_197
  by_cases c_12 : x0 = 10
  · subst c_12
    refine lv_tableIn (off := 197) (tgt := 198) hx hb dX11_count_1 (by decide) (by decide) rfl (by decide) ?_
    refine lv_aload_n hx hb dX11_count_198 rfl (lv_at hl 0 rfl) ?_
    refine va_get (D := D) (ci := 11) (v := .ref nw) (C := RX11) (T := TX11) (N := 11) hx hb hG inG_X11 hown hE.1 hP 0 rfl rfl 5 (by decide) (hG _ q_f_X11_43) (fun _ h9 => h9) rfl dX11_count_199 ?_
    refine va_get (D := D) (ci := 4) (v := .ref fd) (C := RX4) (T := TX4) (N := 6) hx hb hG inG_X4 hown hE.1 hP 1 rfl rfl 0 (by decide) (hG _ q_f_X11_111) (fun _ h9 => h9) rfl dX11_count_202 ?_
    refine lv_bipush (v := 58) hx hb dX11_count_205 (by decide) ?_
    refine kcV (As := [.int 58]) (rest := []) F hE hP hl.1 (c_sumOfArchers l D cy (fd := fd) (x0 := 58) (fc := fc)) q_m_X11_146 mv_X1_sumOfArchers ⟨(Nat.le_of_ble_eq_true rfl), (Nat.le_of_ble_eq_true rfl)⟩ [2, 3] rfl rfl rfl rfl rfl rfl (Nat.le_of_ble_eq_true rfl) ⟨(Nat.le_of_ble_eq_true rfl), (Nat.le_of_ble_eq_true rfl)⟩ dX11_count_207 (fun r_13 er_13 => ?_)
    subst er_13
    exact KP.rt F rfl (by decide) dX11_count_210
  by_cases c_14 : x0 = 11
  · subst c_14
    refine lv_tableIn (off := 210) (tgt := 211) hx hb dX11_count_1 (by decide) (by decide) rfl (by decide) ?_
    refine lv_aload_n hx hb dX11_count_211 rfl (lv_at hl 0 rfl) ?_
    refine va_get (D := D) (ci := 11) (v := .ref nw) (C := RX11) (T := TX11) (N := 11) hx hb hG inG_X11 hown hE.1 hP 0 rfl rfl 5 (by decide) (hG _ q_f_X11_43) (fun _ h9 => h9) rfl dX11_count_212 ?_
    refine va_get (D := D) (ci := 4) (v := .ref fd) (C := RX4) (T := TX4) (N := 6) hx hb hG inG_X4 hown hE.1 hP 1 rfl rfl 0 (by decide) (hG _ q_f_X11_111) (fun _ h9 => h9) rfl dX11_count_215 ?_
    refine va_get (D := D) (ci := 1) (v := .ref fc) (C := RX1) (T := TX1) (N := 1) hx hb hG inG_X1 hown hE.1 hP 2 rfl rfl 0 (by decide) (hG _ q_f_X11_124) (fun _ h9 => h9) rfl dX11_count_218 ?_
    refine lv_bipush (v := 7) hx hb dX11_count_221 (by decide) ?_
    refine va_iald hx hb hE.1 hP 3 0 rfl rfl (by unfold vp_in; decide) dX11_count_223 ?_
    refine k_top (z := 0) rfl ?_
    exact KP.rt F rfl (by decide) dX11_count_224
  by_cases c_15 : x0 = 12
  · subst c_15
    refine lv_tableIn (off := 224) (tgt := 225) hx hb dX11_count_1 (by decide) (by decide) rfl (by decide) ?_
    refine lv_aload_n hx hb dX11_count_225 rfl (lv_at hl 0 rfl) ?_
    refine va_get (D := D) (ci := 11) (v := .ref nw) (C := RX11) (T := TX11) (N := 11) hx hb hG inG_X11 hown hE.1 hP 0 rfl rfl 5 (by decide) (hG _ q_f_X11_43) (fun _ h9 => h9) rfl dX11_count_226 ?_
    refine va_get (D := D) (ci := 4) (v := .ref nt) (C := RX4) (T := TX4) (N := 6) hx hb hG inG_X4 hown hE.1 hP 1 rfl rfl 2 (by decide) (hG _ q_f_X11_114) (fun _ h9 => h9) rfl dX11_count_229 ?_
    refine va_get (D := D) (ci := 5) (v := .int 0) (C := RX5) (T := TX5) (N := 4) hx hb hG inG_X5 hown hE.1 hP 4 rfl rfl 3 (by decide) (hG _ q_f_X11_118) (fun _ h9 => h9) rfl dX11_count_232 ?_
    exact KP.rt F rfl (by decide) dX11_count_235
  by_cases c_16 : x0 = 13
  · subst c_16
    refine lv_tableIn (off := 235) (tgt := 236) hx hb dX11_count_1 (by decide) (by decide) rfl (by decide) ?_
    refine lv_aload_n hx hb dX11_count_236 rfl (lv_at hl 0 rfl) ?_
    refine va_get (D := D) (ci := 11) (v := .ref ac) (C := RX11) (T := TX11) (N := 11) hx hb hG inG_X11 hown hE.1 hP 0 rfl rfl 7 (by decide) (hG _ q_f_X11_54) (fun _ h9 => h9) rfl dX11_count_237 ?_
    refine va_get (D := D) (ci := 0) (v := .int 0) (C := RX0) (T := TX0) (N := 3) hx hb hG inG_X0 hown hE.1 hP 5 rfl rfl 2 (by decide) (hG _ q_f_X11_123) (fun _ h9 => h9) rfl dX11_count_240 ?_
    exact KP.rt F rfl (by decide) dX11_count_243
  by_cases c_17 : x0 = 14
  · subst c_17
    refine lv_tableIn (off := 243) (tgt := 244) hx hb dX11_count_1 (by decide) (by decide) rfl (by decide) ?_
    refine lv_aload_n hx hb dX11_count_244 rfl (lv_at hl 0 rfl) ?_
    refine va_get (D := D) (ci := 11) (v := .ref nw) (C := RX11) (T := TX11) (N := 11) hx hb hG inG_X11 hown hE.1 hP 0 rfl rfl 5 (by decide) (hG _ q_f_X11_43) (fun _ h9 => h9) rfl dX11_count_245 ?_
    refine va_get (D := D) (ci := 4) (v := .int 0) (C := RX4) (T := TX4) (N := 6) hx hb hG inG_X4 hown hE.1 hP 1 rfl rfl 4 (by decide) (hG _ q_f_X11_149) (fun _ h9 => h9) rfl dX11_count_248 ?_
    exact KP.rt F rfl (by decide) dX11_count_251
  by_cases c_18 : x0 = 15
  · subst c_18
    refine lv_tableIn (off := 251) (tgt := 252) hx hb dX11_count_1 (by decide) (by decide) rfl (by decide) ?_
    refine lv_aload_n hx hb dX11_count_252 rfl (lv_at hl 0 rfl) ?_
    refine va_get (D := D) (ci := 11) (v := .ref tp) (C := RX11) (T := TX11) (N := 11) hx hb hG inG_X11 hown hE.1 hP 0 rfl rfl 0 (by decide) (hG _ q_f_X11_10) (fun _ h9 => h9) rfl dX11_count_253 ?_
    refine va_get (D := D) (ci := 10) (v := .int 0) (C := RX10) (T := TX10) (N := 11) hx hb hG inG_X10 hown hE.1 hP 6 rfl rfl 1 (by decide) (hG _ q_f_X11_87) (fun _ h9 => h9) rfl dX11_count_256 ?_
    exact KP.rt F rfl (by decide) dX11_count_259
  have nc_1 := lv_neT (a := 0) c_1 rfl
  have nc_2 := lv_neT (a := 1) c_2 rfl
  have nc_3 := lv_neT (a := 2) c_3 rfl
  have nc_4 := lv_neT (a := 3) c_4 rfl
  have nc_5 := lv_neT (a := 4) c_5 rfl
  have nc_6 := lv_neT (a := 5) c_6 rfl
  have nc_7 := lv_neT (a := 6) c_7 rfl
  have nc_8 := lv_neT (a := 7) c_8 rfl
  have nc_9 := lv_neT (a := 8) c_9 rfl
  have nc_10 := lv_neT (a := 9) c_10 rfl
  have nc_12 := lv_neT (a := 10) c_12 rfl
  have nc_14 := lv_neT (a := 11) c_14 rfl
  have nc_15 := lv_neT (a := 12) c_15 rfl
  have nc_16 := lv_neT (a := 13) c_16 rfl
  have nc_17 := lv_neT (a := 14) c_17 rfl
  have nc_18 := lv_neT (a := 15) c_18 rfl
  refine lv_tableOut (tgt := 260) hx hb dX11_count_1 (by omega) (by decide) ?_
  refine lv_iconst (v := (-1)) hx hb dX11_count_260 (by decide) ?_
  exact KP.rt F rfl (by simp [k_cnt, *]) dX11_count_261

set_option maxHeartbeats 4000000 in
set_option maxRecDepth 100000 in
theorem x_backOut (l : Launch) (D : va_G) (cy : Nat → ClassId) (h0 tp gr rr ru nw im ac py fo su : Nat) (x0 : Int32) (hk : x0 < 0 ∨ 3 < x0) : KP l yX11_back cX11_back 2 (some .int) 1 22 D (kTY cy) [.ref h0, .int x0] [(h0, .inr (11, [.ref tp, .ref gr, .ref rr, .ref ru, .int 0, .ref nw, .ref im, .ref ac, .ref py, .ref fo, .ref su]))] (fun r => r = -1) := by
  refine KP.of (by decide) (Nat.le_of_ble_eq_true rfl) (fun p e s m below meth c ls F hE hP hl => ?_)
  have F : kF p s m meth c cX11_back 2 (some .int) _ RX11 := F
  obtain ⟨hx, hb, hr, hml, hown, hG, hlk⟩ := id F
  have hl : lv_has ls 2 [(0, .ref h0), (1, .int x0)] := hl
  refine lv_iload_n hx hb dX11_back_0 rfl (lv_at hl 1 rfl) ?_
  refine lv_iconst (v := 0) hx hb dX11_back_1 (by decide) ?_
  refine lv_iconst (v := 3) hx hb dX11_back_2 (by decide) ?_
  refine kcS (As := [.int x0, .int 0, .int 3]) (rest := []) F hE hP hl.1 (c_within l D cy (x0 := x0) (x1 := 0) (x2 := 3)) q_m_X11_90 ms_X11_within ⟨(Nat.le_of_ble_eq_true rfl), (Nat.le_of_ble_eq_true rfl)⟩ [] rfl rfl rfl (Nat.le_of_ble_eq_true rfl) ⟨(Nat.le_of_ble_eq_true rfl), (Nat.le_of_ble_eq_true rfl)⟩ dX11_back_3 (fun r_1 er_1 => ?_)
  obtain rfl : r_1 = 0 := er_1.trans (if_pos hk)
  refine lv_if_eq (tgt := 21) hx hb dX11_back_6 (by decide) (fun _ => ?_) (fun q => absurd q (by decide))
  refine lv_iconst (v := (-1)) hx hb dX11_back_21 (by decide) ?_
  exact KP.rt F rfl (rfl) dX11_back_22

theorem k_in4 {x : Int32} (h : ¬ (x < 0 ∨ 3 < x)) : vp_in x 4 := by
  rw [vp_in_iff]
  rw [not_or, Int32.not_lt, Int32.not_lt, Int32.le_iff_toInt_le, Int32.le_iff_toInt_le] at h
  have h0 : (0 : Int32).toInt = 0 := by decide
  have h3 : (3 : Int32).toInt = 3 := by decide
  omega

set_option maxHeartbeats 4000000 in
set_option maxRecDepth 100000 in
theorem x_backIn (l : Launch) (D : va_G) (cy : Nat → ClassId) (h0 tp gr rr ru nw im ac py fo su : Nat) (x0 : Int32) (hk : ¬ (x0 < 0 ∨ 3 < x0)) (fi : Nat → Option Nat) (ik fk bk tk : Nat) (hfi : fi (Int32.toNatClampNeg x0) = some ik) : KP l yX11_back cX11_back 2 (some .int) 1 22 D (kTY cy) [.ref h0, .int x0] [(h0, .inr (11, [.ref tp, .ref gr, .ref rr, .ref ru, .int 0, .ref nw, .ref im, .ref ac, .ref py, .ref fo, .ref su])), (im, .inl (cy 4, 4, .inr (.inr (.inr (.inr (fi)))))), (ik, .inr (4, [.ref fk, .ref bk, .ref tk, .int (-1), .int 0, .int 0]))] (fun r => r = -1) := by
  refine KP.of (by decide) (Nat.le_of_ble_eq_true rfl) (fun p e s m below meth c ls F hE hP hl => ?_)
  have F : kF p s m meth c cX11_back 2 (some .int) _ RX11 := F
  obtain ⟨hx, hb, hr, hml, hown, hG, hlk⟩ := id F
  have hl : lv_has ls 2 [(0, .ref h0), (1, .int x0)] := hl
  refine lv_iload_n hx hb dX11_back_0 rfl (lv_at hl 1 rfl) ?_
  refine lv_iconst (v := 0) hx hb dX11_back_1 (by decide) ?_
  refine lv_iconst (v := 3) hx hb dX11_back_2 (by decide) ?_
  refine kcS (As := [.int x0, .int 0, .int 3]) (rest := []) F hE hP hl.1 (c_within l D cy (x0 := x0) (x1 := 0) (x2 := 3)) q_m_X11_90 ms_X11_within ⟨(Nat.le_of_ble_eq_true rfl), (Nat.le_of_ble_eq_true rfl)⟩ [] rfl rfl rfl (Nat.le_of_ble_eq_true rfl) ⟨(Nat.le_of_ble_eq_true rfl), (Nat.le_of_ble_eq_true rfl)⟩ dX11_back_3 (fun r_1 er_1 => ?_)
  obtain rfl : r_1 = 1 := er_1.trans (if_neg hk)
  refine lv_if_eq (tgt := 21) hx hb dX11_back_6 (by decide) (fun q => absurd q (by decide)) (fun _ => ?_)
  refine lv_aload_n hx hb dX11_back_9 rfl (lv_at hl 0 rfl) ?_
  refine va_get (D := D) (ci := 11) (v := .ref im) (C := RX11) (T := TX11) (N := 11) hx hb hG inG_X11 hown hE.1 hP 0 rfl rfl 6 (by decide) (hG _ q_f_X11_47) (fun _ h9 => h9) rfl dX11_back_10 ?_
  refine lv_iload_n hx hb dX11_back_13 rfl (lv_at hl 1 rfl) ?_
  refine va_aldq hx hb hE.1 hP 1 4 rfl rfl (k_in4 hk) dX11_back_14 ?_
  refine k_tv (z := .ref ik) (by rw [hfi]; rfl) ?_
  refine va_get (D := D) (ci := 4) (v := .int 0) (C := RX4) (T := TX4) (N := 6) hx hb hG inG_X4 hown hE.1 hP 2 rfl rfl 5 (by decide) (hG _ q_f_X11_273) (fun _ h9 => h9) rfl dX11_back_15 ?_
  refine lv_if_ne (tgt := 23) hx hb dX11_back_18 (by decide) (fun q => absurd q (by decide)) (fun _ => ?_)
  refine lv_iconst (v := (-1)) hx hb dX11_back_21 (by decide) ?_
  exact KP.rt F rfl (rfl) dX11_back_22
end
section
set_option maxHeartbeats 4000000 in
set_option maxRecDepth 100000 in
theorem c_addBytes0 (l : Launch) (D : va_G) (cy : Nat → ClassId) (tp tby tki tva tpl : Nat) (fb : Nat → Int32) (x0 : Int32) : KV l yX10_addBytes cX10_addBytes 3 0 0 D (kTY cy) [.ref tp, .int x0] [(tp, .inr (10, [.ref tby, .int 0, .ref tki, .ref tva, .ref tpl, .int 0, .int 0, .int 0, .int 0, .int 0, .int 0])), (tby, .inl (cy 0, 400, .inl (fb)))] (S := Nat → Int32) (fun _ => True) (fun f => [(tp, .inr (10, [.ref tby, .int 4, .ref tki, .ref tva, .ref tpl, .int 0, .int 0, .int 0, .int 0, .int 0, .int 0])), (tby, .inl (cy 0, 400, .inl (f)))]) 0 0 := by
  refine KV.of (by decide) (Nat.le_of_ble_eq_true rfl) (fun p e s m below meth c ls A F hin hE hP hD hA hS hl => ?_)
  have F : kF p s m meth c cX10_addBytes 3 none _ RX10 := F
  obtain ⟨hx, hb, hr, hml, hown, hG, hlk⟩ := id F
  have hl : lv_has ls 3 [(0, .ref tp), (1, .int x0)] := hl
  refine lv_bipush (v := 24) hx hb dX10_addBytes_0 (by decide) ?_
  refine lv_istore_n (lv' := [(2, .int 24), (0, .ref tp), (1, .int x0)]) hx hb dX10_addBytes_2 rfl hl (by decide) rfl (fun ls hl => ?_)
  refine lv_iload_n hx hb dX10_addBytes_3 rfl (lv_at hl 0 rfl) ?_
  refine lv_if_lt (tgt := 49) hx hb dX10_addBytes_4 (by decide) (fun q => absurd q (by decide)) (fun _ => ?_)
  refine lv_aload_n hx hb dX10_addBytes_7 rfl (lv_at hl 1 rfl) ?_
  refine va_get (D := D) (ci := 10) (v := .int 0) (C := RX10) (T := TX10) (N := 11) hx hb hG inG_X10 hown hE.1 hP 0 rfl rfl 1 (by decide) (hG _ q_f_X10_15) (fun _ h9 => h9) rfl dX10_addBytes_8 ?_
  refine lv_sipush (v := 400) hx hb dX10_addBytes_11 (by decide) ?_
  refine lv_icmp_ge (tgt := 49) hx hb dX10_addBytes_14 (by decide) (fun q => absurd q (by decide)) (fun _ => ?_)
  refine lv_aload_n hx hb dX10_addBytes_17 rfl (lv_at hl 1 rfl) ?_
  refine va_get (D := D) (ci := 10) (v := .ref tby) (C := RX10) (T := TX10) (N := 11) hx hb hG inG_X10 hown hE.1 hP 0 rfl rfl 0 (by decide) (hG _ q_f_X10_11) (fun _ h9 => h9) rfl dX10_addBytes_18 ?_
  refine lv_aload_n hx hb dX10_addBytes_21 rfl (lv_at hl 1 rfl) ?_
  refine va_get (D := D) (ci := 10) (v := .int 0) (C := RX10) (T := TX10) (N := 11) hx hb hG inG_X10 hown hE.1 hP 0 rfl rfl 1 (by decide) (hG _ q_f_X10_15) (fun _ h9 => h9) rfl dX10_addBytes_22 ?_
  refine lv_iload_n hx hb dX10_addBytes_25 rfl (lv_at hl 2 rfl) ?_
  refine lv_iload_n hx hb dX10_addBytes_26 rfl (lv_at hl 0 rfl) ?_
  refine lv_iushr hx hb dX10_addBytes_27 rfl ?_
  refine lv_topi (fun z_1 ez_1 => ?_)
  refine lv_sipush (v := 255) hx hb dX10_addBytes_28 (by decide) ?_
  refine lv_iand hx hb dX10_addBytes_31 ?_
  refine lv_topi (fun z_2 ez_2 => ?_)
  refine va_iast hx hb hE.1 hP hD hS 1 0 rfl rfl (by unfold vp_in; decide) dX10_addBytes_32 (fun H locs hP hD hS => ?_)
  generalize upd (fb) (Int32.toNatClampNeg 0) z_2 = fn_3 at hP hD
  have hP : va_P D vwCl [(tp, .inr (10, [.ref tby, .int 0, .ref tki, .ref tva, .ref tpl, .int 0, .int 0, .int 0, .int 0, .int 0, .int 0])), (tby, .inl (cy 0, 400, .inl (fn_3)))] H := hP
  have hD : va_D A [(tp, .inr (10, [.ref tby, .int 0, .ref tki, .ref tva, .ref tpl, .int 0, .int 0, .int 0, .int 0, .int 0, .int 0])), (tby, .inl (cy 0, 400, .inl (fn_3)))] := hD
  refine lv_aload_n hx hb dX10_addBytes_33 rfl (lv_at hl 1 rfl) ?_
  refine lv_dup hx hb dX10_addBytes_34 rfl ?_
  refine va_get (D := D) (ci := 10) (v := .int 0) (C := RX10) (T := TX10) (N := 11) hx hb hG inG_X10 hown hE.1 hP 0 rfl rfl 1 (by decide) (hG _ q_f_X10_15) (fun _ h9 => h9) rfl dX10_addBytes_35 ?_
  refine lv_iconst (v := 1) hx hb dX10_addBytes_38 (by decide) ?_
  refine lv_iadd hx hb dX10_addBytes_39 ?_
  refine k_top (z := 1) (by decide) ?_
  refine va_put (D := D) (ci := 10) (v := .int 1) (ty := .int) (C := RX10) (T := TX10) (N := 11) hx hb hG inG_X10 tyX10 tyX10_ok nmX10 hown hE.1 hP hD hS 0 rfl rfl 1 (by decide) (hG _ q_f_X10_15) (fun _ h9 => h9) rfl (by decide +kernel) rfl rfl (Nat.le_of_ble_eq_true rfl) dX10_addBytes_40 (fun H locs hP hD hS => ?_)
  have hP : va_P D vwCl [(tp, .inr (10, [.ref tby, .int 1, .ref tki, .ref tva, .ref tpl, .int 0, .int 0, .int 0, .int 0, .int 0, .int 0])), (tby, .inl (cy 0, 400, .inl (fn_3)))] H := hP
  have hD : va_D A [(tp, .inr (10, [.ref tby, .int 1, .ref tki, .ref tva, .ref tpl, .int 0, .int 0, .int 0, .int 0, .int 0, .int 0])), (tby, .inl (cy 0, 400, .inl (fn_3)))] := hD
  refine lv_iinc (v := 16) (lv' := [(2, .int 16), (0, .ref tp), (1, .int x0)]) hx hb dX10_addBytes_43 hl (k := 0) rfl (by decide) (by decide) rfl (fun ls hl => ?_)
  refine lv_goto (tgt := 3) hx hb dX10_addBytes_46 (by decide) ?_
  refine lv_iload_n hx hb dX10_addBytes_3 rfl (lv_at hl 0 rfl) ?_
  refine lv_if_lt (tgt := 49) hx hb dX10_addBytes_4 (by decide) (fun q => absurd q (by decide)) (fun _ => ?_)
  refine lv_aload_n hx hb dX10_addBytes_7 rfl (lv_at hl 1 rfl) ?_
  refine va_get (D := D) (ci := 10) (v := .int 1) (C := RX10) (T := TX10) (N := 11) hx hb hG inG_X10 hown hE.1 hP 0 rfl rfl 1 (by decide) (hG _ q_f_X10_15) (fun _ h9 => h9) rfl dX10_addBytes_8 ?_
  refine lv_sipush (v := 400) hx hb dX10_addBytes_11 (by decide) ?_
  refine lv_icmp_ge (tgt := 49) hx hb dX10_addBytes_14 (by decide) (fun q => absurd q (by decide)) (fun _ => ?_)
  refine lv_aload_n hx hb dX10_addBytes_17 rfl (lv_at hl 1 rfl) ?_
  refine va_get (D := D) (ci := 10) (v := .ref tby) (C := RX10) (T := TX10) (N := 11) hx hb hG inG_X10 hown hE.1 hP 0 rfl rfl 0 (by decide) (hG _ q_f_X10_11) (fun _ h9 => h9) rfl dX10_addBytes_18 ?_
  refine lv_aload_n hx hb dX10_addBytes_21 rfl (lv_at hl 1 rfl) ?_
  refine va_get (D := D) (ci := 10) (v := .int 1) (C := RX10) (T := TX10) (N := 11) hx hb hG inG_X10 hown hE.1 hP 0 rfl rfl 1 (by decide) (hG _ q_f_X10_15) (fun _ h9 => h9) rfl dX10_addBytes_22 ?_
  refine lv_iload_n hx hb dX10_addBytes_25 rfl (lv_at hl 2 rfl) ?_
  refine lv_iload_n hx hb dX10_addBytes_26 rfl (lv_at hl 0 rfl) ?_
  refine lv_iushr hx hb dX10_addBytes_27 rfl ?_
  refine lv_topi (fun z_4 ez_4 => ?_)
  refine lv_sipush (v := 255) hx hb dX10_addBytes_28 (by decide) ?_
  refine lv_iand hx hb dX10_addBytes_31 ?_
  refine lv_topi (fun z_5 ez_5 => ?_)
  refine va_iast hx hb hE.1 hP hD hS 1 0 rfl rfl (by unfold vp_in; decide) dX10_addBytes_32 (fun H locs hP hD hS => ?_)
  generalize upd (fn_3) (Int32.toNatClampNeg 1) z_5 = fn_6 at hP hD
  have hP : va_P D vwCl [(tp, .inr (10, [.ref tby, .int 1, .ref tki, .ref tva, .ref tpl, .int 0, .int 0, .int 0, .int 0, .int 0, .int 0])), (tby, .inl (cy 0, 400, .inl (fn_6)))] H := hP
  have hD : va_D A [(tp, .inr (10, [.ref tby, .int 1, .ref tki, .ref tva, .ref tpl, .int 0, .int 0, .int 0, .int 0, .int 0, .int 0])), (tby, .inl (cy 0, 400, .inl (fn_6)))] := hD
  refine lv_aload_n hx hb dX10_addBytes_33 rfl (lv_at hl 1 rfl) ?_
  refine lv_dup hx hb dX10_addBytes_34 rfl ?_
  refine va_get (D := D) (ci := 10) (v := .int 1) (C := RX10) (T := TX10) (N := 11) hx hb hG inG_X10 hown hE.1 hP 0 rfl rfl 1 (by decide) (hG _ q_f_X10_15) (fun _ h9 => h9) rfl dX10_addBytes_35 ?_
  refine lv_iconst (v := 1) hx hb dX10_addBytes_38 (by decide) ?_
  refine lv_iadd hx hb dX10_addBytes_39 ?_
  refine k_top (z := 2) (by decide) ?_
  refine va_put (D := D) (ci := 10) (v := .int 2) (ty := .int) (C := RX10) (T := TX10) (N := 11) hx hb hG inG_X10 tyX10 tyX10_ok nmX10 hown hE.1 hP hD hS 0 rfl rfl 1 (by decide) (hG _ q_f_X10_15) (fun _ h9 => h9) rfl (by decide +kernel) rfl rfl (Nat.le_of_ble_eq_true rfl) dX10_addBytes_40 (fun H locs hP hD hS => ?_)
  have hP : va_P D vwCl [(tp, .inr (10, [.ref tby, .int 2, .ref tki, .ref tva, .ref tpl, .int 0, .int 0, .int 0, .int 0, .int 0, .int 0])), (tby, .inl (cy 0, 400, .inl (fn_6)))] H := hP
  have hD : va_D A [(tp, .inr (10, [.ref tby, .int 2, .ref tki, .ref tva, .ref tpl, .int 0, .int 0, .int 0, .int 0, .int 0, .int 0])), (tby, .inl (cy 0, 400, .inl (fn_6)))] := hD
  refine lv_iinc (v := 8) (lv' := [(2, .int 8), (0, .ref tp), (1, .int x0)]) hx hb dX10_addBytes_43 hl (k := 0) rfl (by decide) (by decide) rfl (fun ls hl => ?_)
  refine lv_goto (tgt := 3) hx hb dX10_addBytes_46 (by decide) ?_
  refine lv_iload_n hx hb dX10_addBytes_3 rfl (lv_at hl 0 rfl) ?_
  refine lv_if_lt (tgt := 49) hx hb dX10_addBytes_4 (by decide) (fun q => absurd q (by decide)) (fun _ => ?_)
  refine lv_aload_n hx hb dX10_addBytes_7 rfl (lv_at hl 1 rfl) ?_
  refine va_get (D := D) (ci := 10) (v := .int 2) (C := RX10) (T := TX10) (N := 11) hx hb hG inG_X10 hown hE.1 hP 0 rfl rfl 1 (by decide) (hG _ q_f_X10_15) (fun _ h9 => h9) rfl dX10_addBytes_8 ?_
  refine lv_sipush (v := 400) hx hb dX10_addBytes_11 (by decide) ?_
  refine lv_icmp_ge (tgt := 49) hx hb dX10_addBytes_14 (by decide) (fun q => absurd q (by decide)) (fun _ => ?_)
  refine lv_aload_n hx hb dX10_addBytes_17 rfl (lv_at hl 1 rfl) ?_
  refine va_get (D := D) (ci := 10) (v := .ref tby) (C := RX10) (T := TX10) (N := 11) hx hb hG inG_X10 hown hE.1 hP 0 rfl rfl 0 (by decide) (hG _ q_f_X10_11) (fun _ h9 => h9) rfl dX10_addBytes_18 ?_
  refine lv_aload_n hx hb dX10_addBytes_21 rfl (lv_at hl 1 rfl) ?_
  refine va_get (D := D) (ci := 10) (v := .int 2) (C := RX10) (T := TX10) (N := 11) hx hb hG inG_X10 hown hE.1 hP 0 rfl rfl 1 (by decide) (hG _ q_f_X10_15) (fun _ h9 => h9) rfl dX10_addBytes_22 ?_
  refine lv_iload_n hx hb dX10_addBytes_25 rfl (lv_at hl 2 rfl) ?_
  refine lv_iload_n hx hb dX10_addBytes_26 rfl (lv_at hl 0 rfl) ?_
  refine lv_iushr hx hb dX10_addBytes_27 rfl ?_
  refine lv_topi (fun z_7 ez_7 => ?_)
  refine lv_sipush (v := 255) hx hb dX10_addBytes_28 (by decide) ?_
  refine lv_iand hx hb dX10_addBytes_31 ?_
  refine lv_topi (fun z_8 ez_8 => ?_)
  refine va_iast hx hb hE.1 hP hD hS 1 0 rfl rfl (by unfold vp_in; decide) dX10_addBytes_32 (fun H locs hP hD hS => ?_)
  generalize upd (fn_6) (Int32.toNatClampNeg 2) z_8 = fn_9 at hP hD
  have hP : va_P D vwCl [(tp, .inr (10, [.ref tby, .int 2, .ref tki, .ref tva, .ref tpl, .int 0, .int 0, .int 0, .int 0, .int 0, .int 0])), (tby, .inl (cy 0, 400, .inl (fn_9)))] H := hP
  have hD : va_D A [(tp, .inr (10, [.ref tby, .int 2, .ref tki, .ref tva, .ref tpl, .int 0, .int 0, .int 0, .int 0, .int 0, .int 0])), (tby, .inl (cy 0, 400, .inl (fn_9)))] := hD
  refine lv_aload_n hx hb dX10_addBytes_33 rfl (lv_at hl 1 rfl) ?_
  refine lv_dup hx hb dX10_addBytes_34 rfl ?_
  refine va_get (D := D) (ci := 10) (v := .int 2) (C := RX10) (T := TX10) (N := 11) hx hb hG inG_X10 hown hE.1 hP 0 rfl rfl 1 (by decide) (hG _ q_f_X10_15) (fun _ h9 => h9) rfl dX10_addBytes_35 ?_
  refine lv_iconst (v := 1) hx hb dX10_addBytes_38 (by decide) ?_
  refine lv_iadd hx hb dX10_addBytes_39 ?_
  refine k_top (z := 3) (by decide) ?_
  refine va_put (D := D) (ci := 10) (v := .int 3) (ty := .int) (C := RX10) (T := TX10) (N := 11) hx hb hG inG_X10 tyX10 tyX10_ok nmX10 hown hE.1 hP hD hS 0 rfl rfl 1 (by decide) (hG _ q_f_X10_15) (fun _ h9 => h9) rfl (by decide +kernel) rfl rfl (Nat.le_of_ble_eq_true rfl) dX10_addBytes_40 (fun H locs hP hD hS => ?_)
  have hP : va_P D vwCl [(tp, .inr (10, [.ref tby, .int 3, .ref tki, .ref tva, .ref tpl, .int 0, .int 0, .int 0, .int 0, .int 0, .int 0])), (tby, .inl (cy 0, 400, .inl (fn_9)))] H := hP
  have hD : va_D A [(tp, .inr (10, [.ref tby, .int 3, .ref tki, .ref tva, .ref tpl, .int 0, .int 0, .int 0, .int 0, .int 0, .int 0])), (tby, .inl (cy 0, 400, .inl (fn_9)))] := hD
  refine lv_iinc (v := 0) (lv' := [(2, .int 0), (0, .ref tp), (1, .int x0)]) hx hb dX10_addBytes_43 hl (k := 0) rfl (by decide) (by decide) rfl (fun ls hl => ?_)
  refine lv_goto (tgt := 3) hx hb dX10_addBytes_46 (by decide) ?_
  refine lv_iload_n hx hb dX10_addBytes_3 rfl (lv_at hl 0 rfl) ?_
  refine lv_if_lt (tgt := 49) hx hb dX10_addBytes_4 (by decide) (fun q => absurd q (by decide)) (fun _ => ?_)
  refine lv_aload_n hx hb dX10_addBytes_7 rfl (lv_at hl 1 rfl) ?_
  refine va_get (D := D) (ci := 10) (v := .int 3) (C := RX10) (T := TX10) (N := 11) hx hb hG inG_X10 hown hE.1 hP 0 rfl rfl 1 (by decide) (hG _ q_f_X10_15) (fun _ h9 => h9) rfl dX10_addBytes_8 ?_
  refine lv_sipush (v := 400) hx hb dX10_addBytes_11 (by decide) ?_
  refine lv_icmp_ge (tgt := 49) hx hb dX10_addBytes_14 (by decide) (fun q => absurd q (by decide)) (fun _ => ?_)
  refine lv_aload_n hx hb dX10_addBytes_17 rfl (lv_at hl 1 rfl) ?_
  refine va_get (D := D) (ci := 10) (v := .ref tby) (C := RX10) (T := TX10) (N := 11) hx hb hG inG_X10 hown hE.1 hP 0 rfl rfl 0 (by decide) (hG _ q_f_X10_11) (fun _ h9 => h9) rfl dX10_addBytes_18 ?_
  refine lv_aload_n hx hb dX10_addBytes_21 rfl (lv_at hl 1 rfl) ?_
  refine va_get (D := D) (ci := 10) (v := .int 3) (C := RX10) (T := TX10) (N := 11) hx hb hG inG_X10 hown hE.1 hP 0 rfl rfl 1 (by decide) (hG _ q_f_X10_15) (fun _ h9 => h9) rfl dX10_addBytes_22 ?_
  refine lv_iload_n hx hb dX10_addBytes_25 rfl (lv_at hl 2 rfl) ?_
  refine lv_iload_n hx hb dX10_addBytes_26 rfl (lv_at hl 0 rfl) ?_
  refine lv_iushr hx hb dX10_addBytes_27 rfl ?_
  refine lv_topi (fun z_10 ez_10 => ?_)
  refine lv_sipush (v := 255) hx hb dX10_addBytes_28 (by decide) ?_
  refine lv_iand hx hb dX10_addBytes_31 ?_
  refine lv_topi (fun z_11 ez_11 => ?_)
  refine va_iast hx hb hE.1 hP hD hS 1 0 rfl rfl (by unfold vp_in; decide) dX10_addBytes_32 (fun H locs hP hD hS => ?_)
  generalize upd (fn_9) (Int32.toNatClampNeg 3) z_11 = fn_12 at hP hD
  have hP : va_P D vwCl [(tp, .inr (10, [.ref tby, .int 3, .ref tki, .ref tva, .ref tpl, .int 0, .int 0, .int 0, .int 0, .int 0, .int 0])), (tby, .inl (cy 0, 400, .inl (fn_12)))] H := hP
  have hD : va_D A [(tp, .inr (10, [.ref tby, .int 3, .ref tki, .ref tva, .ref tpl, .int 0, .int 0, .int 0, .int 0, .int 0, .int 0])), (tby, .inl (cy 0, 400, .inl (fn_12)))] := hD
  refine lv_aload_n hx hb dX10_addBytes_33 rfl (lv_at hl 1 rfl) ?_
  refine lv_dup hx hb dX10_addBytes_34 rfl ?_
  refine va_get (D := D) (ci := 10) (v := .int 3) (C := RX10) (T := TX10) (N := 11) hx hb hG inG_X10 hown hE.1 hP 0 rfl rfl 1 (by decide) (hG _ q_f_X10_15) (fun _ h9 => h9) rfl dX10_addBytes_35 ?_
  refine lv_iconst (v := 1) hx hb dX10_addBytes_38 (by decide) ?_
  refine lv_iadd hx hb dX10_addBytes_39 ?_
  refine k_top (z := 4) (by decide) ?_
  refine va_put (D := D) (ci := 10) (v := .int 4) (ty := .int) (C := RX10) (T := TX10) (N := 11) hx hb hG inG_X10 tyX10 tyX10_ok nmX10 hown hE.1 hP hD hS 0 rfl rfl 1 (by decide) (hG _ q_f_X10_15) (fun _ h9 => h9) rfl (by decide +kernel) rfl rfl (Nat.le_of_ble_eq_true rfl) dX10_addBytes_40 (fun H locs hP hD hS => ?_)
  have hP : va_P D vwCl [(tp, .inr (10, [.ref tby, .int 4, .ref tki, .ref tva, .ref tpl, .int 0, .int 0, .int 0, .int 0, .int 0, .int 0])), (tby, .inl (cy 0, 400, .inl (fn_12)))] H := hP
  have hD : va_D A [(tp, .inr (10, [.ref tby, .int 4, .ref tki, .ref tva, .ref tpl, .int 0, .int 0, .int 0, .int 0, .int 0, .int 0])), (tby, .inl (cy 0, 400, .inl (fn_12)))] := hD
  refine lv_iinc (v := (-8)) (lv' := [(2, .int (-8)), (0, .ref tp), (1, .int x0)]) hx hb dX10_addBytes_43 hl (k := 0) rfl (by decide) (by decide) rfl (fun ls hl => ?_)
  refine lv_goto (tgt := 3) hx hb dX10_addBytes_46 (by decide) ?_
  refine lv_iload_n hx hb dX10_addBytes_3 rfl (lv_at hl 0 rfl) ?_
  refine lv_if_lt (tgt := 49) hx hb dX10_addBytes_4 (by decide) (fun _ => ?_) (fun q => absurd q (by decide))
  exact KV.rt fn_12 F (hP.sub [0, 1] rfl) (hD.sub [0, 1] (by decide) rfl) hS (trivial) (Nat.le_of_ble_eq_true rfl) (Nat.le_of_ble_eq_true rfl) dX10_addBytes_49

set_option maxHeartbeats 4000000 in
set_option maxRecDepth 100000 in
theorem c_addBytes4 (l : Launch) (D : va_G) (cy : Nat → ClassId) (tp tby tki tva tpl : Nat) (fb : Nat → Int32) (x0 : Int32) : KV l yX10_addBytes cX10_addBytes 3 0 0 D (kTY cy) [.ref tp, .int x0] [(tp, .inr (10, [.ref tby, .int 4, .ref tki, .ref tva, .ref tpl, .int 0, .int 0, .int 0, .int 0, .int 0, .int 0])), (tby, .inl (cy 0, 400, .inl (fb)))] (S := Nat → Int32) (fun _ => True) (fun f => [(tp, .inr (10, [.ref tby, .int 8, .ref tki, .ref tva, .ref tpl, .int 0, .int 0, .int 0, .int 0, .int 0, .int 0])), (tby, .inl (cy 0, 400, .inl (f)))]) 0 0 := by
  refine KV.of (by decide) (Nat.le_of_ble_eq_true rfl) (fun p e s m below meth c ls A F hin hE hP hD hA hS hl => ?_)
  have F : kF p s m meth c cX10_addBytes 3 none _ RX10 := F
  obtain ⟨hx, hb, hr, hml, hown, hG, hlk⟩ := id F
  have hl : lv_has ls 3 [(0, .ref tp), (1, .int x0)] := hl
  refine lv_bipush (v := 24) hx hb dX10_addBytes_0 (by decide) ?_
  refine lv_istore_n (lv' := [(2, .int 24), (0, .ref tp), (1, .int x0)]) hx hb dX10_addBytes_2 rfl hl (by decide) rfl (fun ls hl => ?_)
  refine lv_iload_n hx hb dX10_addBytes_3 rfl (lv_at hl 0 rfl) ?_
  refine lv_if_lt (tgt := 49) hx hb dX10_addBytes_4 (by decide) (fun q => absurd q (by decide)) (fun _ => ?_)
  refine lv_aload_n hx hb dX10_addBytes_7 rfl (lv_at hl 1 rfl) ?_
  refine va_get (D := D) (ci := 10) (v := .int 4) (C := RX10) (T := TX10) (N := 11) hx hb hG inG_X10 hown hE.1 hP 0 rfl rfl 1 (by decide) (hG _ q_f_X10_15) (fun _ h9 => h9) rfl dX10_addBytes_8 ?_
  refine lv_sipush (v := 400) hx hb dX10_addBytes_11 (by decide) ?_
  refine lv_icmp_ge (tgt := 49) hx hb dX10_addBytes_14 (by decide) (fun q => absurd q (by decide)) (fun _ => ?_)
  refine lv_aload_n hx hb dX10_addBytes_17 rfl (lv_at hl 1 rfl) ?_
  refine va_get (D := D) (ci := 10) (v := .ref tby) (C := RX10) (T := TX10) (N := 11) hx hb hG inG_X10 hown hE.1 hP 0 rfl rfl 0 (by decide) (hG _ q_f_X10_11) (fun _ h9 => h9) rfl dX10_addBytes_18 ?_
  refine lv_aload_n hx hb dX10_addBytes_21 rfl (lv_at hl 1 rfl) ?_
  refine va_get (D := D) (ci := 10) (v := .int 4) (C := RX10) (T := TX10) (N := 11) hx hb hG inG_X10 hown hE.1 hP 0 rfl rfl 1 (by decide) (hG _ q_f_X10_15) (fun _ h9 => h9) rfl dX10_addBytes_22 ?_
  refine lv_iload_n hx hb dX10_addBytes_25 rfl (lv_at hl 2 rfl) ?_
  refine lv_iload_n hx hb dX10_addBytes_26 rfl (lv_at hl 0 rfl) ?_
  refine lv_iushr hx hb dX10_addBytes_27 rfl ?_
  refine lv_topi (fun z_1 ez_1 => ?_)
  refine lv_sipush (v := 255) hx hb dX10_addBytes_28 (by decide) ?_
  refine lv_iand hx hb dX10_addBytes_31 ?_
  refine lv_topi (fun z_2 ez_2 => ?_)
  refine va_iast hx hb hE.1 hP hD hS 1 0 rfl rfl (by unfold vp_in; decide) dX10_addBytes_32 (fun H locs hP hD hS => ?_)
  generalize upd (fb) (Int32.toNatClampNeg 4) z_2 = fn_3 at hP hD
  have hP : va_P D vwCl [(tp, .inr (10, [.ref tby, .int 4, .ref tki, .ref tva, .ref tpl, .int 0, .int 0, .int 0, .int 0, .int 0, .int 0])), (tby, .inl (cy 0, 400, .inl (fn_3)))] H := hP
  have hD : va_D A [(tp, .inr (10, [.ref tby, .int 4, .ref tki, .ref tva, .ref tpl, .int 0, .int 0, .int 0, .int 0, .int 0, .int 0])), (tby, .inl (cy 0, 400, .inl (fn_3)))] := hD
  refine lv_aload_n hx hb dX10_addBytes_33 rfl (lv_at hl 1 rfl) ?_
  refine lv_dup hx hb dX10_addBytes_34 rfl ?_
  refine va_get (D := D) (ci := 10) (v := .int 4) (C := RX10) (T := TX10) (N := 11) hx hb hG inG_X10 hown hE.1 hP 0 rfl rfl 1 (by decide) (hG _ q_f_X10_15) (fun _ h9 => h9) rfl dX10_addBytes_35 ?_
  refine lv_iconst (v := 1) hx hb dX10_addBytes_38 (by decide) ?_
  refine lv_iadd hx hb dX10_addBytes_39 ?_
  refine k_top (z := 5) (by decide) ?_
  refine va_put (D := D) (ci := 10) (v := .int 5) (ty := .int) (C := RX10) (T := TX10) (N := 11) hx hb hG inG_X10 tyX10 tyX10_ok nmX10 hown hE.1 hP hD hS 0 rfl rfl 1 (by decide) (hG _ q_f_X10_15) (fun _ h9 => h9) rfl (by decide +kernel) rfl rfl (Nat.le_of_ble_eq_true rfl) dX10_addBytes_40 (fun H locs hP hD hS => ?_)
  have hP : va_P D vwCl [(tp, .inr (10, [.ref tby, .int 5, .ref tki, .ref tva, .ref tpl, .int 0, .int 0, .int 0, .int 0, .int 0, .int 0])), (tby, .inl (cy 0, 400, .inl (fn_3)))] H := hP
  have hD : va_D A [(tp, .inr (10, [.ref tby, .int 5, .ref tki, .ref tva, .ref tpl, .int 0, .int 0, .int 0, .int 0, .int 0, .int 0])), (tby, .inl (cy 0, 400, .inl (fn_3)))] := hD
  refine lv_iinc (v := 16) (lv' := [(2, .int 16), (0, .ref tp), (1, .int x0)]) hx hb dX10_addBytes_43 hl (k := 0) rfl (by decide) (by decide) rfl (fun ls hl => ?_)
  refine lv_goto (tgt := 3) hx hb dX10_addBytes_46 (by decide) ?_
  refine lv_iload_n hx hb dX10_addBytes_3 rfl (lv_at hl 0 rfl) ?_
  refine lv_if_lt (tgt := 49) hx hb dX10_addBytes_4 (by decide) (fun q => absurd q (by decide)) (fun _ => ?_)
  refine lv_aload_n hx hb dX10_addBytes_7 rfl (lv_at hl 1 rfl) ?_
  refine va_get (D := D) (ci := 10) (v := .int 5) (C := RX10) (T := TX10) (N := 11) hx hb hG inG_X10 hown hE.1 hP 0 rfl rfl 1 (by decide) (hG _ q_f_X10_15) (fun _ h9 => h9) rfl dX10_addBytes_8 ?_
  refine lv_sipush (v := 400) hx hb dX10_addBytes_11 (by decide) ?_
  refine lv_icmp_ge (tgt := 49) hx hb dX10_addBytes_14 (by decide) (fun q => absurd q (by decide)) (fun _ => ?_)
  refine lv_aload_n hx hb dX10_addBytes_17 rfl (lv_at hl 1 rfl) ?_
  refine va_get (D := D) (ci := 10) (v := .ref tby) (C := RX10) (T := TX10) (N := 11) hx hb hG inG_X10 hown hE.1 hP 0 rfl rfl 0 (by decide) (hG _ q_f_X10_11) (fun _ h9 => h9) rfl dX10_addBytes_18 ?_
  refine lv_aload_n hx hb dX10_addBytes_21 rfl (lv_at hl 1 rfl) ?_
  refine va_get (D := D) (ci := 10) (v := .int 5) (C := RX10) (T := TX10) (N := 11) hx hb hG inG_X10 hown hE.1 hP 0 rfl rfl 1 (by decide) (hG _ q_f_X10_15) (fun _ h9 => h9) rfl dX10_addBytes_22 ?_
  refine lv_iload_n hx hb dX10_addBytes_25 rfl (lv_at hl 2 rfl) ?_
  refine lv_iload_n hx hb dX10_addBytes_26 rfl (lv_at hl 0 rfl) ?_
  refine lv_iushr hx hb dX10_addBytes_27 rfl ?_
  refine lv_topi (fun z_4 ez_4 => ?_)
  refine lv_sipush (v := 255) hx hb dX10_addBytes_28 (by decide) ?_
  refine lv_iand hx hb dX10_addBytes_31 ?_
  refine lv_topi (fun z_5 ez_5 => ?_)
  refine va_iast hx hb hE.1 hP hD hS 1 0 rfl rfl (by unfold vp_in; decide) dX10_addBytes_32 (fun H locs hP hD hS => ?_)
  generalize upd (fn_3) (Int32.toNatClampNeg 5) z_5 = fn_6 at hP hD
  have hP : va_P D vwCl [(tp, .inr (10, [.ref tby, .int 5, .ref tki, .ref tva, .ref tpl, .int 0, .int 0, .int 0, .int 0, .int 0, .int 0])), (tby, .inl (cy 0, 400, .inl (fn_6)))] H := hP
  have hD : va_D A [(tp, .inr (10, [.ref tby, .int 5, .ref tki, .ref tva, .ref tpl, .int 0, .int 0, .int 0, .int 0, .int 0, .int 0])), (tby, .inl (cy 0, 400, .inl (fn_6)))] := hD
  refine lv_aload_n hx hb dX10_addBytes_33 rfl (lv_at hl 1 rfl) ?_
  refine lv_dup hx hb dX10_addBytes_34 rfl ?_
  refine va_get (D := D) (ci := 10) (v := .int 5) (C := RX10) (T := TX10) (N := 11) hx hb hG inG_X10 hown hE.1 hP 0 rfl rfl 1 (by decide) (hG _ q_f_X10_15) (fun _ h9 => h9) rfl dX10_addBytes_35 ?_
  refine lv_iconst (v := 1) hx hb dX10_addBytes_38 (by decide) ?_
  refine lv_iadd hx hb dX10_addBytes_39 ?_
  refine k_top (z := 6) (by decide) ?_
  refine va_put (D := D) (ci := 10) (v := .int 6) (ty := .int) (C := RX10) (T := TX10) (N := 11) hx hb hG inG_X10 tyX10 tyX10_ok nmX10 hown hE.1 hP hD hS 0 rfl rfl 1 (by decide) (hG _ q_f_X10_15) (fun _ h9 => h9) rfl (by decide +kernel) rfl rfl (Nat.le_of_ble_eq_true rfl) dX10_addBytes_40 (fun H locs hP hD hS => ?_)
  have hP : va_P D vwCl [(tp, .inr (10, [.ref tby, .int 6, .ref tki, .ref tva, .ref tpl, .int 0, .int 0, .int 0, .int 0, .int 0, .int 0])), (tby, .inl (cy 0, 400, .inl (fn_6)))] H := hP
  have hD : va_D A [(tp, .inr (10, [.ref tby, .int 6, .ref tki, .ref tva, .ref tpl, .int 0, .int 0, .int 0, .int 0, .int 0, .int 0])), (tby, .inl (cy 0, 400, .inl (fn_6)))] := hD
  refine lv_iinc (v := 8) (lv' := [(2, .int 8), (0, .ref tp), (1, .int x0)]) hx hb dX10_addBytes_43 hl (k := 0) rfl (by decide) (by decide) rfl (fun ls hl => ?_)
  refine lv_goto (tgt := 3) hx hb dX10_addBytes_46 (by decide) ?_
  refine lv_iload_n hx hb dX10_addBytes_3 rfl (lv_at hl 0 rfl) ?_
  refine lv_if_lt (tgt := 49) hx hb dX10_addBytes_4 (by decide) (fun q => absurd q (by decide)) (fun _ => ?_)
  refine lv_aload_n hx hb dX10_addBytes_7 rfl (lv_at hl 1 rfl) ?_
  refine va_get (D := D) (ci := 10) (v := .int 6) (C := RX10) (T := TX10) (N := 11) hx hb hG inG_X10 hown hE.1 hP 0 rfl rfl 1 (by decide) (hG _ q_f_X10_15) (fun _ h9 => h9) rfl dX10_addBytes_8 ?_
  refine lv_sipush (v := 400) hx hb dX10_addBytes_11 (by decide) ?_
  refine lv_icmp_ge (tgt := 49) hx hb dX10_addBytes_14 (by decide) (fun q => absurd q (by decide)) (fun _ => ?_)
  refine lv_aload_n hx hb dX10_addBytes_17 rfl (lv_at hl 1 rfl) ?_
  refine va_get (D := D) (ci := 10) (v := .ref tby) (C := RX10) (T := TX10) (N := 11) hx hb hG inG_X10 hown hE.1 hP 0 rfl rfl 0 (by decide) (hG _ q_f_X10_11) (fun _ h9 => h9) rfl dX10_addBytes_18 ?_
  refine lv_aload_n hx hb dX10_addBytes_21 rfl (lv_at hl 1 rfl) ?_
  refine va_get (D := D) (ci := 10) (v := .int 6) (C := RX10) (T := TX10) (N := 11) hx hb hG inG_X10 hown hE.1 hP 0 rfl rfl 1 (by decide) (hG _ q_f_X10_15) (fun _ h9 => h9) rfl dX10_addBytes_22 ?_
  refine lv_iload_n hx hb dX10_addBytes_25 rfl (lv_at hl 2 rfl) ?_
  refine lv_iload_n hx hb dX10_addBytes_26 rfl (lv_at hl 0 rfl) ?_
  refine lv_iushr hx hb dX10_addBytes_27 rfl ?_
  refine lv_topi (fun z_7 ez_7 => ?_)
  refine lv_sipush (v := 255) hx hb dX10_addBytes_28 (by decide) ?_
  refine lv_iand hx hb dX10_addBytes_31 ?_
  refine lv_topi (fun z_8 ez_8 => ?_)
  refine va_iast hx hb hE.1 hP hD hS 1 0 rfl rfl (by unfold vp_in; decide) dX10_addBytes_32 (fun H locs hP hD hS => ?_)
  generalize upd (fn_6) (Int32.toNatClampNeg 6) z_8 = fn_9 at hP hD
  have hP : va_P D vwCl [(tp, .inr (10, [.ref tby, .int 6, .ref tki, .ref tva, .ref tpl, .int 0, .int 0, .int 0, .int 0, .int 0, .int 0])), (tby, .inl (cy 0, 400, .inl (fn_9)))] H := hP
  have hD : va_D A [(tp, .inr (10, [.ref tby, .int 6, .ref tki, .ref tva, .ref tpl, .int 0, .int 0, .int 0, .int 0, .int 0, .int 0])), (tby, .inl (cy 0, 400, .inl (fn_9)))] := hD
  refine lv_aload_n hx hb dX10_addBytes_33 rfl (lv_at hl 1 rfl) ?_
  refine lv_dup hx hb dX10_addBytes_34 rfl ?_
  refine va_get (D := D) (ci := 10) (v := .int 6) (C := RX10) (T := TX10) (N := 11) hx hb hG inG_X10 hown hE.1 hP 0 rfl rfl 1 (by decide) (hG _ q_f_X10_15) (fun _ h9 => h9) rfl dX10_addBytes_35 ?_
  refine lv_iconst (v := 1) hx hb dX10_addBytes_38 (by decide) ?_
  refine lv_iadd hx hb dX10_addBytes_39 ?_
  refine k_top (z := 7) (by decide) ?_
  refine va_put (D := D) (ci := 10) (v := .int 7) (ty := .int) (C := RX10) (T := TX10) (N := 11) hx hb hG inG_X10 tyX10 tyX10_ok nmX10 hown hE.1 hP hD hS 0 rfl rfl 1 (by decide) (hG _ q_f_X10_15) (fun _ h9 => h9) rfl (by decide +kernel) rfl rfl (Nat.le_of_ble_eq_true rfl) dX10_addBytes_40 (fun H locs hP hD hS => ?_)
  have hP : va_P D vwCl [(tp, .inr (10, [.ref tby, .int 7, .ref tki, .ref tva, .ref tpl, .int 0, .int 0, .int 0, .int 0, .int 0, .int 0])), (tby, .inl (cy 0, 400, .inl (fn_9)))] H := hP
  have hD : va_D A [(tp, .inr (10, [.ref tby, .int 7, .ref tki, .ref tva, .ref tpl, .int 0, .int 0, .int 0, .int 0, .int 0, .int 0])), (tby, .inl (cy 0, 400, .inl (fn_9)))] := hD
  refine lv_iinc (v := 0) (lv' := [(2, .int 0), (0, .ref tp), (1, .int x0)]) hx hb dX10_addBytes_43 hl (k := 0) rfl (by decide) (by decide) rfl (fun ls hl => ?_)
  refine lv_goto (tgt := 3) hx hb dX10_addBytes_46 (by decide) ?_
  refine lv_iload_n hx hb dX10_addBytes_3 rfl (lv_at hl 0 rfl) ?_
  refine lv_if_lt (tgt := 49) hx hb dX10_addBytes_4 (by decide) (fun q => absurd q (by decide)) (fun _ => ?_)
  refine lv_aload_n hx hb dX10_addBytes_7 rfl (lv_at hl 1 rfl) ?_
  refine va_get (D := D) (ci := 10) (v := .int 7) (C := RX10) (T := TX10) (N := 11) hx hb hG inG_X10 hown hE.1 hP 0 rfl rfl 1 (by decide) (hG _ q_f_X10_15) (fun _ h9 => h9) rfl dX10_addBytes_8 ?_
  refine lv_sipush (v := 400) hx hb dX10_addBytes_11 (by decide) ?_
  refine lv_icmp_ge (tgt := 49) hx hb dX10_addBytes_14 (by decide) (fun q => absurd q (by decide)) (fun _ => ?_)
  refine lv_aload_n hx hb dX10_addBytes_17 rfl (lv_at hl 1 rfl) ?_
  refine va_get (D := D) (ci := 10) (v := .ref tby) (C := RX10) (T := TX10) (N := 11) hx hb hG inG_X10 hown hE.1 hP 0 rfl rfl 0 (by decide) (hG _ q_f_X10_11) (fun _ h9 => h9) rfl dX10_addBytes_18 ?_
  refine lv_aload_n hx hb dX10_addBytes_21 rfl (lv_at hl 1 rfl) ?_
  refine va_get (D := D) (ci := 10) (v := .int 7) (C := RX10) (T := TX10) (N := 11) hx hb hG inG_X10 hown hE.1 hP 0 rfl rfl 1 (by decide) (hG _ q_f_X10_15) (fun _ h9 => h9) rfl dX10_addBytes_22 ?_
  refine lv_iload_n hx hb dX10_addBytes_25 rfl (lv_at hl 2 rfl) ?_
  refine lv_iload_n hx hb dX10_addBytes_26 rfl (lv_at hl 0 rfl) ?_
  refine lv_iushr hx hb dX10_addBytes_27 rfl ?_
  refine lv_topi (fun z_10 ez_10 => ?_)
  refine lv_sipush (v := 255) hx hb dX10_addBytes_28 (by decide) ?_
  refine lv_iand hx hb dX10_addBytes_31 ?_
  refine lv_topi (fun z_11 ez_11 => ?_)
  refine va_iast hx hb hE.1 hP hD hS 1 0 rfl rfl (by unfold vp_in; decide) dX10_addBytes_32 (fun H locs hP hD hS => ?_)
  generalize upd (fn_9) (Int32.toNatClampNeg 7) z_11 = fn_12 at hP hD
  have hP : va_P D vwCl [(tp, .inr (10, [.ref tby, .int 7, .ref tki, .ref tva, .ref tpl, .int 0, .int 0, .int 0, .int 0, .int 0, .int 0])), (tby, .inl (cy 0, 400, .inl (fn_12)))] H := hP
  have hD : va_D A [(tp, .inr (10, [.ref tby, .int 7, .ref tki, .ref tva, .ref tpl, .int 0, .int 0, .int 0, .int 0, .int 0, .int 0])), (tby, .inl (cy 0, 400, .inl (fn_12)))] := hD
  refine lv_aload_n hx hb dX10_addBytes_33 rfl (lv_at hl 1 rfl) ?_
  refine lv_dup hx hb dX10_addBytes_34 rfl ?_
  refine va_get (D := D) (ci := 10) (v := .int 7) (C := RX10) (T := TX10) (N := 11) hx hb hG inG_X10 hown hE.1 hP 0 rfl rfl 1 (by decide) (hG _ q_f_X10_15) (fun _ h9 => h9) rfl dX10_addBytes_35 ?_
  refine lv_iconst (v := 1) hx hb dX10_addBytes_38 (by decide) ?_
  refine lv_iadd hx hb dX10_addBytes_39 ?_
  refine k_top (z := 8) (by decide) ?_
  refine va_put (D := D) (ci := 10) (v := .int 8) (ty := .int) (C := RX10) (T := TX10) (N := 11) hx hb hG inG_X10 tyX10 tyX10_ok nmX10 hown hE.1 hP hD hS 0 rfl rfl 1 (by decide) (hG _ q_f_X10_15) (fun _ h9 => h9) rfl (by decide +kernel) rfl rfl (Nat.le_of_ble_eq_true rfl) dX10_addBytes_40 (fun H locs hP hD hS => ?_)
  have hP : va_P D vwCl [(tp, .inr (10, [.ref tby, .int 8, .ref tki, .ref tva, .ref tpl, .int 0, .int 0, .int 0, .int 0, .int 0, .int 0])), (tby, .inl (cy 0, 400, .inl (fn_12)))] H := hP
  have hD : va_D A [(tp, .inr (10, [.ref tby, .int 8, .ref tki, .ref tva, .ref tpl, .int 0, .int 0, .int 0, .int 0, .int 0, .int 0])), (tby, .inl (cy 0, 400, .inl (fn_12)))] := hD
  refine lv_iinc (v := (-8)) (lv' := [(2, .int (-8)), (0, .ref tp), (1, .int x0)]) hx hb dX10_addBytes_43 hl (k := 0) rfl (by decide) (by decide) rfl (fun ls hl => ?_)
  refine lv_goto (tgt := 3) hx hb dX10_addBytes_46 (by decide) ?_
  refine lv_iload_n hx hb dX10_addBytes_3 rfl (lv_at hl 0 rfl) ?_
  refine lv_if_lt (tgt := 49) hx hb dX10_addBytes_4 (by decide) (fun _ => ?_) (fun q => absurd q (by decide))
  exact KV.rt fn_12 F (hP.sub [0, 1] rfl) (hD.sub [0, 1] (by decide) rfl) hS (trivial) (Nat.le_of_ble_eq_true rfl) (Nat.le_of_ble_eq_true rfl) dX10_addBytes_49

set_option maxHeartbeats 4000000 in
set_option maxRecDepth 100000 in
theorem c_addBytes8 (l : Launch) (D : va_G) (cy : Nat → ClassId) (tp tby tki tva tpl : Nat) (fb : Nat → Int32) (x0 : Int32) : KV l yX10_addBytes cX10_addBytes 3 0 0 D (kTY cy) [.ref tp, .int x0] [(tp, .inr (10, [.ref tby, .int 8, .ref tki, .ref tva, .ref tpl, .int 0, .int 0, .int 0, .int 0, .int 0, .int 0])), (tby, .inl (cy 0, 400, .inl (fb)))] (S := Nat → Int32) (fun _ => True) (fun f => [(tp, .inr (10, [.ref tby, .int 12, .ref tki, .ref tva, .ref tpl, .int 0, .int 0, .int 0, .int 0, .int 0, .int 0])), (tby, .inl (cy 0, 400, .inl (f)))]) 0 0 := by
  refine KV.of (by decide) (Nat.le_of_ble_eq_true rfl) (fun p e s m below meth c ls A F hin hE hP hD hA hS hl => ?_)
  have F : kF p s m meth c cX10_addBytes 3 none _ RX10 := F
  obtain ⟨hx, hb, hr, hml, hown, hG, hlk⟩ := id F
  have hl : lv_has ls 3 [(0, .ref tp), (1, .int x0)] := hl
  refine lv_bipush (v := 24) hx hb dX10_addBytes_0 (by decide) ?_
  refine lv_istore_n (lv' := [(2, .int 24), (0, .ref tp), (1, .int x0)]) hx hb dX10_addBytes_2 rfl hl (by decide) rfl (fun ls hl => ?_)
  refine lv_iload_n hx hb dX10_addBytes_3 rfl (lv_at hl 0 rfl) ?_
  refine lv_if_lt (tgt := 49) hx hb dX10_addBytes_4 (by decide) (fun q => absurd q (by decide)) (fun _ => ?_)
  refine lv_aload_n hx hb dX10_addBytes_7 rfl (lv_at hl 1 rfl) ?_
  refine va_get (D := D) (ci := 10) (v := .int 8) (C := RX10) (T := TX10) (N := 11) hx hb hG inG_X10 hown hE.1 hP 0 rfl rfl 1 (by decide) (hG _ q_f_X10_15) (fun _ h9 => h9) rfl dX10_addBytes_8 ?_
  refine lv_sipush (v := 400) hx hb dX10_addBytes_11 (by decide) ?_
  refine lv_icmp_ge (tgt := 49) hx hb dX10_addBytes_14 (by decide) (fun q => absurd q (by decide)) (fun _ => ?_)
  refine lv_aload_n hx hb dX10_addBytes_17 rfl (lv_at hl 1 rfl) ?_
  refine va_get (D := D) (ci := 10) (v := .ref tby) (C := RX10) (T := TX10) (N := 11) hx hb hG inG_X10 hown hE.1 hP 0 rfl rfl 0 (by decide) (hG _ q_f_X10_11) (fun _ h9 => h9) rfl dX10_addBytes_18 ?_
  refine lv_aload_n hx hb dX10_addBytes_21 rfl (lv_at hl 1 rfl) ?_
  refine va_get (D := D) (ci := 10) (v := .int 8) (C := RX10) (T := TX10) (N := 11) hx hb hG inG_X10 hown hE.1 hP 0 rfl rfl 1 (by decide) (hG _ q_f_X10_15) (fun _ h9 => h9) rfl dX10_addBytes_22 ?_
  refine lv_iload_n hx hb dX10_addBytes_25 rfl (lv_at hl 2 rfl) ?_
  refine lv_iload_n hx hb dX10_addBytes_26 rfl (lv_at hl 0 rfl) ?_
  refine lv_iushr hx hb dX10_addBytes_27 rfl ?_
  refine lv_topi (fun z_1 ez_1 => ?_)
  refine lv_sipush (v := 255) hx hb dX10_addBytes_28 (by decide) ?_
  refine lv_iand hx hb dX10_addBytes_31 ?_
  refine lv_topi (fun z_2 ez_2 => ?_)
  refine va_iast hx hb hE.1 hP hD hS 1 0 rfl rfl (by unfold vp_in; decide) dX10_addBytes_32 (fun H locs hP hD hS => ?_)
  generalize upd (fb) (Int32.toNatClampNeg 8) z_2 = fn_3 at hP hD
  have hP : va_P D vwCl [(tp, .inr (10, [.ref tby, .int 8, .ref tki, .ref tva, .ref tpl, .int 0, .int 0, .int 0, .int 0, .int 0, .int 0])), (tby, .inl (cy 0, 400, .inl (fn_3)))] H := hP
  have hD : va_D A [(tp, .inr (10, [.ref tby, .int 8, .ref tki, .ref tva, .ref tpl, .int 0, .int 0, .int 0, .int 0, .int 0, .int 0])), (tby, .inl (cy 0, 400, .inl (fn_3)))] := hD
  refine lv_aload_n hx hb dX10_addBytes_33 rfl (lv_at hl 1 rfl) ?_
  refine lv_dup hx hb dX10_addBytes_34 rfl ?_
  refine va_get (D := D) (ci := 10) (v := .int 8) (C := RX10) (T := TX10) (N := 11) hx hb hG inG_X10 hown hE.1 hP 0 rfl rfl 1 (by decide) (hG _ q_f_X10_15) (fun _ h9 => h9) rfl dX10_addBytes_35 ?_
  refine lv_iconst (v := 1) hx hb dX10_addBytes_38 (by decide) ?_
  refine lv_iadd hx hb dX10_addBytes_39 ?_
  refine k_top (z := 9) (by decide) ?_
  refine va_put (D := D) (ci := 10) (v := .int 9) (ty := .int) (C := RX10) (T := TX10) (N := 11) hx hb hG inG_X10 tyX10 tyX10_ok nmX10 hown hE.1 hP hD hS 0 rfl rfl 1 (by decide) (hG _ q_f_X10_15) (fun _ h9 => h9) rfl (by decide +kernel) rfl rfl (Nat.le_of_ble_eq_true rfl) dX10_addBytes_40 (fun H locs hP hD hS => ?_)
  have hP : va_P D vwCl [(tp, .inr (10, [.ref tby, .int 9, .ref tki, .ref tva, .ref tpl, .int 0, .int 0, .int 0, .int 0, .int 0, .int 0])), (tby, .inl (cy 0, 400, .inl (fn_3)))] H := hP
  have hD : va_D A [(tp, .inr (10, [.ref tby, .int 9, .ref tki, .ref tva, .ref tpl, .int 0, .int 0, .int 0, .int 0, .int 0, .int 0])), (tby, .inl (cy 0, 400, .inl (fn_3)))] := hD
  refine lv_iinc (v := 16) (lv' := [(2, .int 16), (0, .ref tp), (1, .int x0)]) hx hb dX10_addBytes_43 hl (k := 0) rfl (by decide) (by decide) rfl (fun ls hl => ?_)
  refine lv_goto (tgt := 3) hx hb dX10_addBytes_46 (by decide) ?_
  refine lv_iload_n hx hb dX10_addBytes_3 rfl (lv_at hl 0 rfl) ?_
  refine lv_if_lt (tgt := 49) hx hb dX10_addBytes_4 (by decide) (fun q => absurd q (by decide)) (fun _ => ?_)
  refine lv_aload_n hx hb dX10_addBytes_7 rfl (lv_at hl 1 rfl) ?_
  refine va_get (D := D) (ci := 10) (v := .int 9) (C := RX10) (T := TX10) (N := 11) hx hb hG inG_X10 hown hE.1 hP 0 rfl rfl 1 (by decide) (hG _ q_f_X10_15) (fun _ h9 => h9) rfl dX10_addBytes_8 ?_
  refine lv_sipush (v := 400) hx hb dX10_addBytes_11 (by decide) ?_
  refine lv_icmp_ge (tgt := 49) hx hb dX10_addBytes_14 (by decide) (fun q => absurd q (by decide)) (fun _ => ?_)
  refine lv_aload_n hx hb dX10_addBytes_17 rfl (lv_at hl 1 rfl) ?_
  refine va_get (D := D) (ci := 10) (v := .ref tby) (C := RX10) (T := TX10) (N := 11) hx hb hG inG_X10 hown hE.1 hP 0 rfl rfl 0 (by decide) (hG _ q_f_X10_11) (fun _ h9 => h9) rfl dX10_addBytes_18 ?_
  refine lv_aload_n hx hb dX10_addBytes_21 rfl (lv_at hl 1 rfl) ?_
  refine va_get (D := D) (ci := 10) (v := .int 9) (C := RX10) (T := TX10) (N := 11) hx hb hG inG_X10 hown hE.1 hP 0 rfl rfl 1 (by decide) (hG _ q_f_X10_15) (fun _ h9 => h9) rfl dX10_addBytes_22 ?_
  refine lv_iload_n hx hb dX10_addBytes_25 rfl (lv_at hl 2 rfl) ?_
  refine lv_iload_n hx hb dX10_addBytes_26 rfl (lv_at hl 0 rfl) ?_
  refine lv_iushr hx hb dX10_addBytes_27 rfl ?_
  refine lv_topi (fun z_4 ez_4 => ?_)
  refine lv_sipush (v := 255) hx hb dX10_addBytes_28 (by decide) ?_
  refine lv_iand hx hb dX10_addBytes_31 ?_
  refine lv_topi (fun z_5 ez_5 => ?_)
  refine va_iast hx hb hE.1 hP hD hS 1 0 rfl rfl (by unfold vp_in; decide) dX10_addBytes_32 (fun H locs hP hD hS => ?_)
  generalize upd (fn_3) (Int32.toNatClampNeg 9) z_5 = fn_6 at hP hD
  have hP : va_P D vwCl [(tp, .inr (10, [.ref tby, .int 9, .ref tki, .ref tva, .ref tpl, .int 0, .int 0, .int 0, .int 0, .int 0, .int 0])), (tby, .inl (cy 0, 400, .inl (fn_6)))] H := hP
  have hD : va_D A [(tp, .inr (10, [.ref tby, .int 9, .ref tki, .ref tva, .ref tpl, .int 0, .int 0, .int 0, .int 0, .int 0, .int 0])), (tby, .inl (cy 0, 400, .inl (fn_6)))] := hD
  refine lv_aload_n hx hb dX10_addBytes_33 rfl (lv_at hl 1 rfl) ?_
  refine lv_dup hx hb dX10_addBytes_34 rfl ?_
  refine va_get (D := D) (ci := 10) (v := .int 9) (C := RX10) (T := TX10) (N := 11) hx hb hG inG_X10 hown hE.1 hP 0 rfl rfl 1 (by decide) (hG _ q_f_X10_15) (fun _ h9 => h9) rfl dX10_addBytes_35 ?_
  refine lv_iconst (v := 1) hx hb dX10_addBytes_38 (by decide) ?_
  refine lv_iadd hx hb dX10_addBytes_39 ?_
  refine k_top (z := 10) (by decide) ?_
  refine va_put (D := D) (ci := 10) (v := .int 10) (ty := .int) (C := RX10) (T := TX10) (N := 11) hx hb hG inG_X10 tyX10 tyX10_ok nmX10 hown hE.1 hP hD hS 0 rfl rfl 1 (by decide) (hG _ q_f_X10_15) (fun _ h9 => h9) rfl (by decide +kernel) rfl rfl (Nat.le_of_ble_eq_true rfl) dX10_addBytes_40 (fun H locs hP hD hS => ?_)
  have hP : va_P D vwCl [(tp, .inr (10, [.ref tby, .int 10, .ref tki, .ref tva, .ref tpl, .int 0, .int 0, .int 0, .int 0, .int 0, .int 0])), (tby, .inl (cy 0, 400, .inl (fn_6)))] H := hP
  have hD : va_D A [(tp, .inr (10, [.ref tby, .int 10, .ref tki, .ref tva, .ref tpl, .int 0, .int 0, .int 0, .int 0, .int 0, .int 0])), (tby, .inl (cy 0, 400, .inl (fn_6)))] := hD
  refine lv_iinc (v := 8) (lv' := [(2, .int 8), (0, .ref tp), (1, .int x0)]) hx hb dX10_addBytes_43 hl (k := 0) rfl (by decide) (by decide) rfl (fun ls hl => ?_)
  refine lv_goto (tgt := 3) hx hb dX10_addBytes_46 (by decide) ?_
  refine lv_iload_n hx hb dX10_addBytes_3 rfl (lv_at hl 0 rfl) ?_
  refine lv_if_lt (tgt := 49) hx hb dX10_addBytes_4 (by decide) (fun q => absurd q (by decide)) (fun _ => ?_)
  refine lv_aload_n hx hb dX10_addBytes_7 rfl (lv_at hl 1 rfl) ?_
  refine va_get (D := D) (ci := 10) (v := .int 10) (C := RX10) (T := TX10) (N := 11) hx hb hG inG_X10 hown hE.1 hP 0 rfl rfl 1 (by decide) (hG _ q_f_X10_15) (fun _ h9 => h9) rfl dX10_addBytes_8 ?_
  refine lv_sipush (v := 400) hx hb dX10_addBytes_11 (by decide) ?_
  refine lv_icmp_ge (tgt := 49) hx hb dX10_addBytes_14 (by decide) (fun q => absurd q (by decide)) (fun _ => ?_)
  refine lv_aload_n hx hb dX10_addBytes_17 rfl (lv_at hl 1 rfl) ?_
  refine va_get (D := D) (ci := 10) (v := .ref tby) (C := RX10) (T := TX10) (N := 11) hx hb hG inG_X10 hown hE.1 hP 0 rfl rfl 0 (by decide) (hG _ q_f_X10_11) (fun _ h9 => h9) rfl dX10_addBytes_18 ?_
  refine lv_aload_n hx hb dX10_addBytes_21 rfl (lv_at hl 1 rfl) ?_
  refine va_get (D := D) (ci := 10) (v := .int 10) (C := RX10) (T := TX10) (N := 11) hx hb hG inG_X10 hown hE.1 hP 0 rfl rfl 1 (by decide) (hG _ q_f_X10_15) (fun _ h9 => h9) rfl dX10_addBytes_22 ?_
  refine lv_iload_n hx hb dX10_addBytes_25 rfl (lv_at hl 2 rfl) ?_
  refine lv_iload_n hx hb dX10_addBytes_26 rfl (lv_at hl 0 rfl) ?_
  refine lv_iushr hx hb dX10_addBytes_27 rfl ?_
  refine lv_topi (fun z_7 ez_7 => ?_)
  refine lv_sipush (v := 255) hx hb dX10_addBytes_28 (by decide) ?_
  refine lv_iand hx hb dX10_addBytes_31 ?_
  refine lv_topi (fun z_8 ez_8 => ?_)
  refine va_iast hx hb hE.1 hP hD hS 1 0 rfl rfl (by unfold vp_in; decide) dX10_addBytes_32 (fun H locs hP hD hS => ?_)
  generalize upd (fn_6) (Int32.toNatClampNeg 10) z_8 = fn_9 at hP hD
  have hP : va_P D vwCl [(tp, .inr (10, [.ref tby, .int 10, .ref tki, .ref tva, .ref tpl, .int 0, .int 0, .int 0, .int 0, .int 0, .int 0])), (tby, .inl (cy 0, 400, .inl (fn_9)))] H := hP
  have hD : va_D A [(tp, .inr (10, [.ref tby, .int 10, .ref tki, .ref tva, .ref tpl, .int 0, .int 0, .int 0, .int 0, .int 0, .int 0])), (tby, .inl (cy 0, 400, .inl (fn_9)))] := hD
  refine lv_aload_n hx hb dX10_addBytes_33 rfl (lv_at hl 1 rfl) ?_
  refine lv_dup hx hb dX10_addBytes_34 rfl ?_
  refine va_get (D := D) (ci := 10) (v := .int 10) (C := RX10) (T := TX10) (N := 11) hx hb hG inG_X10 hown hE.1 hP 0 rfl rfl 1 (by decide) (hG _ q_f_X10_15) (fun _ h9 => h9) rfl dX10_addBytes_35 ?_
  refine lv_iconst (v := 1) hx hb dX10_addBytes_38 (by decide) ?_
  refine lv_iadd hx hb dX10_addBytes_39 ?_
  refine k_top (z := 11) (by decide) ?_
  refine va_put (D := D) (ci := 10) (v := .int 11) (ty := .int) (C := RX10) (T := TX10) (N := 11) hx hb hG inG_X10 tyX10 tyX10_ok nmX10 hown hE.1 hP hD hS 0 rfl rfl 1 (by decide) (hG _ q_f_X10_15) (fun _ h9 => h9) rfl (by decide +kernel) rfl rfl (Nat.le_of_ble_eq_true rfl) dX10_addBytes_40 (fun H locs hP hD hS => ?_)
  have hP : va_P D vwCl [(tp, .inr (10, [.ref tby, .int 11, .ref tki, .ref tva, .ref tpl, .int 0, .int 0, .int 0, .int 0, .int 0, .int 0])), (tby, .inl (cy 0, 400, .inl (fn_9)))] H := hP
  have hD : va_D A [(tp, .inr (10, [.ref tby, .int 11, .ref tki, .ref tva, .ref tpl, .int 0, .int 0, .int 0, .int 0, .int 0, .int 0])), (tby, .inl (cy 0, 400, .inl (fn_9)))] := hD
  refine lv_iinc (v := 0) (lv' := [(2, .int 0), (0, .ref tp), (1, .int x0)]) hx hb dX10_addBytes_43 hl (k := 0) rfl (by decide) (by decide) rfl (fun ls hl => ?_)
  refine lv_goto (tgt := 3) hx hb dX10_addBytes_46 (by decide) ?_
  refine lv_iload_n hx hb dX10_addBytes_3 rfl (lv_at hl 0 rfl) ?_
  refine lv_if_lt (tgt := 49) hx hb dX10_addBytes_4 (by decide) (fun q => absurd q (by decide)) (fun _ => ?_)
  refine lv_aload_n hx hb dX10_addBytes_7 rfl (lv_at hl 1 rfl) ?_
  refine va_get (D := D) (ci := 10) (v := .int 11) (C := RX10) (T := TX10) (N := 11) hx hb hG inG_X10 hown hE.1 hP 0 rfl rfl 1 (by decide) (hG _ q_f_X10_15) (fun _ h9 => h9) rfl dX10_addBytes_8 ?_
  refine lv_sipush (v := 400) hx hb dX10_addBytes_11 (by decide) ?_
  refine lv_icmp_ge (tgt := 49) hx hb dX10_addBytes_14 (by decide) (fun q => absurd q (by decide)) (fun _ => ?_)
  refine lv_aload_n hx hb dX10_addBytes_17 rfl (lv_at hl 1 rfl) ?_
  refine va_get (D := D) (ci := 10) (v := .ref tby) (C := RX10) (T := TX10) (N := 11) hx hb hG inG_X10 hown hE.1 hP 0 rfl rfl 0 (by decide) (hG _ q_f_X10_11) (fun _ h9 => h9) rfl dX10_addBytes_18 ?_
  refine lv_aload_n hx hb dX10_addBytes_21 rfl (lv_at hl 1 rfl) ?_
  refine va_get (D := D) (ci := 10) (v := .int 11) (C := RX10) (T := TX10) (N := 11) hx hb hG inG_X10 hown hE.1 hP 0 rfl rfl 1 (by decide) (hG _ q_f_X10_15) (fun _ h9 => h9) rfl dX10_addBytes_22 ?_
  refine lv_iload_n hx hb dX10_addBytes_25 rfl (lv_at hl 2 rfl) ?_
  refine lv_iload_n hx hb dX10_addBytes_26 rfl (lv_at hl 0 rfl) ?_
  refine lv_iushr hx hb dX10_addBytes_27 rfl ?_
  refine lv_topi (fun z_10 ez_10 => ?_)
  refine lv_sipush (v := 255) hx hb dX10_addBytes_28 (by decide) ?_
  refine lv_iand hx hb dX10_addBytes_31 ?_
  refine lv_topi (fun z_11 ez_11 => ?_)
  refine va_iast hx hb hE.1 hP hD hS 1 0 rfl rfl (by unfold vp_in; decide) dX10_addBytes_32 (fun H locs hP hD hS => ?_)
  generalize upd (fn_9) (Int32.toNatClampNeg 11) z_11 = fn_12 at hP hD
  have hP : va_P D vwCl [(tp, .inr (10, [.ref tby, .int 11, .ref tki, .ref tva, .ref tpl, .int 0, .int 0, .int 0, .int 0, .int 0, .int 0])), (tby, .inl (cy 0, 400, .inl (fn_12)))] H := hP
  have hD : va_D A [(tp, .inr (10, [.ref tby, .int 11, .ref tki, .ref tva, .ref tpl, .int 0, .int 0, .int 0, .int 0, .int 0, .int 0])), (tby, .inl (cy 0, 400, .inl (fn_12)))] := hD
  refine lv_aload_n hx hb dX10_addBytes_33 rfl (lv_at hl 1 rfl) ?_
  refine lv_dup hx hb dX10_addBytes_34 rfl ?_
  refine va_get (D := D) (ci := 10) (v := .int 11) (C := RX10) (T := TX10) (N := 11) hx hb hG inG_X10 hown hE.1 hP 0 rfl rfl 1 (by decide) (hG _ q_f_X10_15) (fun _ h9 => h9) rfl dX10_addBytes_35 ?_
  refine lv_iconst (v := 1) hx hb dX10_addBytes_38 (by decide) ?_
  refine lv_iadd hx hb dX10_addBytes_39 ?_
  refine k_top (z := 12) (by decide) ?_
  refine va_put (D := D) (ci := 10) (v := .int 12) (ty := .int) (C := RX10) (T := TX10) (N := 11) hx hb hG inG_X10 tyX10 tyX10_ok nmX10 hown hE.1 hP hD hS 0 rfl rfl 1 (by decide) (hG _ q_f_X10_15) (fun _ h9 => h9) rfl (by decide +kernel) rfl rfl (Nat.le_of_ble_eq_true rfl) dX10_addBytes_40 (fun H locs hP hD hS => ?_)
  have hP : va_P D vwCl [(tp, .inr (10, [.ref tby, .int 12, .ref tki, .ref tva, .ref tpl, .int 0, .int 0, .int 0, .int 0, .int 0, .int 0])), (tby, .inl (cy 0, 400, .inl (fn_12)))] H := hP
  have hD : va_D A [(tp, .inr (10, [.ref tby, .int 12, .ref tki, .ref tva, .ref tpl, .int 0, .int 0, .int 0, .int 0, .int 0, .int 0])), (tby, .inl (cy 0, 400, .inl (fn_12)))] := hD
  refine lv_iinc (v := (-8)) (lv' := [(2, .int (-8)), (0, .ref tp), (1, .int x0)]) hx hb dX10_addBytes_43 hl (k := 0) rfl (by decide) (by decide) rfl (fun ls hl => ?_)
  refine lv_goto (tgt := 3) hx hb dX10_addBytes_46 (by decide) ?_
  refine lv_iload_n hx hb dX10_addBytes_3 rfl (lv_at hl 0 rfl) ?_
  refine lv_if_lt (tgt := 49) hx hb dX10_addBytes_4 (by decide) (fun _ => ?_) (fun q => absurd q (by decide))
  exact KV.rt fn_12 F (hP.sub [0, 1] rfl) (hD.sub [0, 1] (by decide) rfl) hS (trivial) (Nat.le_of_ble_eq_true rfl) (Nat.le_of_ble_eq_true rfl) dX10_addBytes_49

set_option maxHeartbeats 4000000 in
set_option maxRecDepth 100000 in
theorem c_addBytes12 (l : Launch) (D : va_G) (cy : Nat → ClassId) (tp tby tki tva tpl : Nat) (fb : Nat → Int32) (x0 : Int32) : KV l yX10_addBytes cX10_addBytes 3 0 0 D (kTY cy) [.ref tp, .int x0] [(tp, .inr (10, [.ref tby, .int 12, .ref tki, .ref tva, .ref tpl, .int 0, .int 0, .int 0, .int 0, .int 0, .int 0])), (tby, .inl (cy 0, 400, .inl (fb)))] (S := Nat → Int32) (fun _ => True) (fun f => [(tp, .inr (10, [.ref tby, .int 16, .ref tki, .ref tva, .ref tpl, .int 0, .int 0, .int 0, .int 0, .int 0, .int 0])), (tby, .inl (cy 0, 400, .inl (f)))]) 0 0 := by
  refine KV.of (by decide) (Nat.le_of_ble_eq_true rfl) (fun p e s m below meth c ls A F hin hE hP hD hA hS hl => ?_)
  have F : kF p s m meth c cX10_addBytes 3 none _ RX10 := F
  obtain ⟨hx, hb, hr, hml, hown, hG, hlk⟩ := id F
  have hl : lv_has ls 3 [(0, .ref tp), (1, .int x0)] := hl
  refine lv_bipush (v := 24) hx hb dX10_addBytes_0 (by decide) ?_
  refine lv_istore_n (lv' := [(2, .int 24), (0, .ref tp), (1, .int x0)]) hx hb dX10_addBytes_2 rfl hl (by decide) rfl (fun ls hl => ?_)
  refine lv_iload_n hx hb dX10_addBytes_3 rfl (lv_at hl 0 rfl) ?_
  refine lv_if_lt (tgt := 49) hx hb dX10_addBytes_4 (by decide) (fun q => absurd q (by decide)) (fun _ => ?_)
  refine lv_aload_n hx hb dX10_addBytes_7 rfl (lv_at hl 1 rfl) ?_
  refine va_get (D := D) (ci := 10) (v := .int 12) (C := RX10) (T := TX10) (N := 11) hx hb hG inG_X10 hown hE.1 hP 0 rfl rfl 1 (by decide) (hG _ q_f_X10_15) (fun _ h9 => h9) rfl dX10_addBytes_8 ?_
  refine lv_sipush (v := 400) hx hb dX10_addBytes_11 (by decide) ?_
  refine lv_icmp_ge (tgt := 49) hx hb dX10_addBytes_14 (by decide) (fun q => absurd q (by decide)) (fun _ => ?_)
  refine lv_aload_n hx hb dX10_addBytes_17 rfl (lv_at hl 1 rfl) ?_
  refine va_get (D := D) (ci := 10) (v := .ref tby) (C := RX10) (T := TX10) (N := 11) hx hb hG inG_X10 hown hE.1 hP 0 rfl rfl 0 (by decide) (hG _ q_f_X10_11) (fun _ h9 => h9) rfl dX10_addBytes_18 ?_
  refine lv_aload_n hx hb dX10_addBytes_21 rfl (lv_at hl 1 rfl) ?_
  refine va_get (D := D) (ci := 10) (v := .int 12) (C := RX10) (T := TX10) (N := 11) hx hb hG inG_X10 hown hE.1 hP 0 rfl rfl 1 (by decide) (hG _ q_f_X10_15) (fun _ h9 => h9) rfl dX10_addBytes_22 ?_
  refine lv_iload_n hx hb dX10_addBytes_25 rfl (lv_at hl 2 rfl) ?_
  refine lv_iload_n hx hb dX10_addBytes_26 rfl (lv_at hl 0 rfl) ?_
  refine lv_iushr hx hb dX10_addBytes_27 rfl ?_
  refine lv_topi (fun z_1 ez_1 => ?_)
  refine lv_sipush (v := 255) hx hb dX10_addBytes_28 (by decide) ?_
  refine lv_iand hx hb dX10_addBytes_31 ?_
  refine lv_topi (fun z_2 ez_2 => ?_)
  refine va_iast hx hb hE.1 hP hD hS 1 0 rfl rfl (by unfold vp_in; decide) dX10_addBytes_32 (fun H locs hP hD hS => ?_)
  generalize upd (fb) (Int32.toNatClampNeg 12) z_2 = fn_3 at hP hD
  have hP : va_P D vwCl [(tp, .inr (10, [.ref tby, .int 12, .ref tki, .ref tva, .ref tpl, .int 0, .int 0, .int 0, .int 0, .int 0, .int 0])), (tby, .inl (cy 0, 400, .inl (fn_3)))] H := hP
  have hD : va_D A [(tp, .inr (10, [.ref tby, .int 12, .ref tki, .ref tva, .ref tpl, .int 0, .int 0, .int 0, .int 0, .int 0, .int 0])), (tby, .inl (cy 0, 400, .inl (fn_3)))] := hD
  refine lv_aload_n hx hb dX10_addBytes_33 rfl (lv_at hl 1 rfl) ?_
  refine lv_dup hx hb dX10_addBytes_34 rfl ?_
  refine va_get (D := D) (ci := 10) (v := .int 12) (C := RX10) (T := TX10) (N := 11) hx hb hG inG_X10 hown hE.1 hP 0 rfl rfl 1 (by decide) (hG _ q_f_X10_15) (fun _ h9 => h9) rfl dX10_addBytes_35 ?_
  refine lv_iconst (v := 1) hx hb dX10_addBytes_38 (by decide) ?_
  refine lv_iadd hx hb dX10_addBytes_39 ?_
  refine k_top (z := 13) (by decide) ?_
  refine va_put (D := D) (ci := 10) (v := .int 13) (ty := .int) (C := RX10) (T := TX10) (N := 11) hx hb hG inG_X10 tyX10 tyX10_ok nmX10 hown hE.1 hP hD hS 0 rfl rfl 1 (by decide) (hG _ q_f_X10_15) (fun _ h9 => h9) rfl (by decide +kernel) rfl rfl (Nat.le_of_ble_eq_true rfl) dX10_addBytes_40 (fun H locs hP hD hS => ?_)
  have hP : va_P D vwCl [(tp, .inr (10, [.ref tby, .int 13, .ref tki, .ref tva, .ref tpl, .int 0, .int 0, .int 0, .int 0, .int 0, .int 0])), (tby, .inl (cy 0, 400, .inl (fn_3)))] H := hP
  have hD : va_D A [(tp, .inr (10, [.ref tby, .int 13, .ref tki, .ref tva, .ref tpl, .int 0, .int 0, .int 0, .int 0, .int 0, .int 0])), (tby, .inl (cy 0, 400, .inl (fn_3)))] := hD
  refine lv_iinc (v := 16) (lv' := [(2, .int 16), (0, .ref tp), (1, .int x0)]) hx hb dX10_addBytes_43 hl (k := 0) rfl (by decide) (by decide) rfl (fun ls hl => ?_)
  refine lv_goto (tgt := 3) hx hb dX10_addBytes_46 (by decide) ?_
  refine lv_iload_n hx hb dX10_addBytes_3 rfl (lv_at hl 0 rfl) ?_
  refine lv_if_lt (tgt := 49) hx hb dX10_addBytes_4 (by decide) (fun q => absurd q (by decide)) (fun _ => ?_)
  refine lv_aload_n hx hb dX10_addBytes_7 rfl (lv_at hl 1 rfl) ?_
  refine va_get (D := D) (ci := 10) (v := .int 13) (C := RX10) (T := TX10) (N := 11) hx hb hG inG_X10 hown hE.1 hP 0 rfl rfl 1 (by decide) (hG _ q_f_X10_15) (fun _ h9 => h9) rfl dX10_addBytes_8 ?_
  refine lv_sipush (v := 400) hx hb dX10_addBytes_11 (by decide) ?_
  refine lv_icmp_ge (tgt := 49) hx hb dX10_addBytes_14 (by decide) (fun q => absurd q (by decide)) (fun _ => ?_)
  refine lv_aload_n hx hb dX10_addBytes_17 rfl (lv_at hl 1 rfl) ?_
  refine va_get (D := D) (ci := 10) (v := .ref tby) (C := RX10) (T := TX10) (N := 11) hx hb hG inG_X10 hown hE.1 hP 0 rfl rfl 0 (by decide) (hG _ q_f_X10_11) (fun _ h9 => h9) rfl dX10_addBytes_18 ?_
  refine lv_aload_n hx hb dX10_addBytes_21 rfl (lv_at hl 1 rfl) ?_
  refine va_get (D := D) (ci := 10) (v := .int 13) (C := RX10) (T := TX10) (N := 11) hx hb hG inG_X10 hown hE.1 hP 0 rfl rfl 1 (by decide) (hG _ q_f_X10_15) (fun _ h9 => h9) rfl dX10_addBytes_22 ?_
  refine lv_iload_n hx hb dX10_addBytes_25 rfl (lv_at hl 2 rfl) ?_
  refine lv_iload_n hx hb dX10_addBytes_26 rfl (lv_at hl 0 rfl) ?_
  refine lv_iushr hx hb dX10_addBytes_27 rfl ?_
  refine lv_topi (fun z_4 ez_4 => ?_)
  refine lv_sipush (v := 255) hx hb dX10_addBytes_28 (by decide) ?_
  refine lv_iand hx hb dX10_addBytes_31 ?_
  refine lv_topi (fun z_5 ez_5 => ?_)
  refine va_iast hx hb hE.1 hP hD hS 1 0 rfl rfl (by unfold vp_in; decide) dX10_addBytes_32 (fun H locs hP hD hS => ?_)
  generalize upd (fn_3) (Int32.toNatClampNeg 13) z_5 = fn_6 at hP hD
  have hP : va_P D vwCl [(tp, .inr (10, [.ref tby, .int 13, .ref tki, .ref tva, .ref tpl, .int 0, .int 0, .int 0, .int 0, .int 0, .int 0])), (tby, .inl (cy 0, 400, .inl (fn_6)))] H := hP
  have hD : va_D A [(tp, .inr (10, [.ref tby, .int 13, .ref tki, .ref tva, .ref tpl, .int 0, .int 0, .int 0, .int 0, .int 0, .int 0])), (tby, .inl (cy 0, 400, .inl (fn_6)))] := hD
  refine lv_aload_n hx hb dX10_addBytes_33 rfl (lv_at hl 1 rfl) ?_
  refine lv_dup hx hb dX10_addBytes_34 rfl ?_
  refine va_get (D := D) (ci := 10) (v := .int 13) (C := RX10) (T := TX10) (N := 11) hx hb hG inG_X10 hown hE.1 hP 0 rfl rfl 1 (by decide) (hG _ q_f_X10_15) (fun _ h9 => h9) rfl dX10_addBytes_35 ?_
  refine lv_iconst (v := 1) hx hb dX10_addBytes_38 (by decide) ?_
  refine lv_iadd hx hb dX10_addBytes_39 ?_
  refine k_top (z := 14) (by decide) ?_
  refine va_put (D := D) (ci := 10) (v := .int 14) (ty := .int) (C := RX10) (T := TX10) (N := 11) hx hb hG inG_X10 tyX10 tyX10_ok nmX10 hown hE.1 hP hD hS 0 rfl rfl 1 (by decide) (hG _ q_f_X10_15) (fun _ h9 => h9) rfl (by decide +kernel) rfl rfl (Nat.le_of_ble_eq_true rfl) dX10_addBytes_40 (fun H locs hP hD hS => ?_)
  have hP : va_P D vwCl [(tp, .inr (10, [.ref tby, .int 14, .ref tki, .ref tva, .ref tpl, .int 0, .int 0, .int 0, .int 0, .int 0, .int 0])), (tby, .inl (cy 0, 400, .inl (fn_6)))] H := hP
  have hD : va_D A [(tp, .inr (10, [.ref tby, .int 14, .ref tki, .ref tva, .ref tpl, .int 0, .int 0, .int 0, .int 0, .int 0, .int 0])), (tby, .inl (cy 0, 400, .inl (fn_6)))] := hD
  refine lv_iinc (v := 8) (lv' := [(2, .int 8), (0, .ref tp), (1, .int x0)]) hx hb dX10_addBytes_43 hl (k := 0) rfl (by decide) (by decide) rfl (fun ls hl => ?_)
  refine lv_goto (tgt := 3) hx hb dX10_addBytes_46 (by decide) ?_
  refine lv_iload_n hx hb dX10_addBytes_3 rfl (lv_at hl 0 rfl) ?_
  refine lv_if_lt (tgt := 49) hx hb dX10_addBytes_4 (by decide) (fun q => absurd q (by decide)) (fun _ => ?_)
  refine lv_aload_n hx hb dX10_addBytes_7 rfl (lv_at hl 1 rfl) ?_
  refine va_get (D := D) (ci := 10) (v := .int 14) (C := RX10) (T := TX10) (N := 11) hx hb hG inG_X10 hown hE.1 hP 0 rfl rfl 1 (by decide) (hG _ q_f_X10_15) (fun _ h9 => h9) rfl dX10_addBytes_8 ?_
  refine lv_sipush (v := 400) hx hb dX10_addBytes_11 (by decide) ?_
  refine lv_icmp_ge (tgt := 49) hx hb dX10_addBytes_14 (by decide) (fun q => absurd q (by decide)) (fun _ => ?_)
  refine lv_aload_n hx hb dX10_addBytes_17 rfl (lv_at hl 1 rfl) ?_
  refine va_get (D := D) (ci := 10) (v := .ref tby) (C := RX10) (T := TX10) (N := 11) hx hb hG inG_X10 hown hE.1 hP 0 rfl rfl 0 (by decide) (hG _ q_f_X10_11) (fun _ h9 => h9) rfl dX10_addBytes_18 ?_
  refine lv_aload_n hx hb dX10_addBytes_21 rfl (lv_at hl 1 rfl) ?_
  refine va_get (D := D) (ci := 10) (v := .int 14) (C := RX10) (T := TX10) (N := 11) hx hb hG inG_X10 hown hE.1 hP 0 rfl rfl 1 (by decide) (hG _ q_f_X10_15) (fun _ h9 => h9) rfl dX10_addBytes_22 ?_
  refine lv_iload_n hx hb dX10_addBytes_25 rfl (lv_at hl 2 rfl) ?_
  refine lv_iload_n hx hb dX10_addBytes_26 rfl (lv_at hl 0 rfl) ?_
  refine lv_iushr hx hb dX10_addBytes_27 rfl ?_
  refine lv_topi (fun z_7 ez_7 => ?_)
  refine lv_sipush (v := 255) hx hb dX10_addBytes_28 (by decide) ?_
  refine lv_iand hx hb dX10_addBytes_31 ?_
  refine lv_topi (fun z_8 ez_8 => ?_)
  refine va_iast hx hb hE.1 hP hD hS 1 0 rfl rfl (by unfold vp_in; decide) dX10_addBytes_32 (fun H locs hP hD hS => ?_)
  generalize upd (fn_6) (Int32.toNatClampNeg 14) z_8 = fn_9 at hP hD
  have hP : va_P D vwCl [(tp, .inr (10, [.ref tby, .int 14, .ref tki, .ref tva, .ref tpl, .int 0, .int 0, .int 0, .int 0, .int 0, .int 0])), (tby, .inl (cy 0, 400, .inl (fn_9)))] H := hP
  have hD : va_D A [(tp, .inr (10, [.ref tby, .int 14, .ref tki, .ref tva, .ref tpl, .int 0, .int 0, .int 0, .int 0, .int 0, .int 0])), (tby, .inl (cy 0, 400, .inl (fn_9)))] := hD
  refine lv_aload_n hx hb dX10_addBytes_33 rfl (lv_at hl 1 rfl) ?_
  refine lv_dup hx hb dX10_addBytes_34 rfl ?_
  refine va_get (D := D) (ci := 10) (v := .int 14) (C := RX10) (T := TX10) (N := 11) hx hb hG inG_X10 hown hE.1 hP 0 rfl rfl 1 (by decide) (hG _ q_f_X10_15) (fun _ h9 => h9) rfl dX10_addBytes_35 ?_
  refine lv_iconst (v := 1) hx hb dX10_addBytes_38 (by decide) ?_
  refine lv_iadd hx hb dX10_addBytes_39 ?_
  refine k_top (z := 15) (by decide) ?_
  refine va_put (D := D) (ci := 10) (v := .int 15) (ty := .int) (C := RX10) (T := TX10) (N := 11) hx hb hG inG_X10 tyX10 tyX10_ok nmX10 hown hE.1 hP hD hS 0 rfl rfl 1 (by decide) (hG _ q_f_X10_15) (fun _ h9 => h9) rfl (by decide +kernel) rfl rfl (Nat.le_of_ble_eq_true rfl) dX10_addBytes_40 (fun H locs hP hD hS => ?_)
  have hP : va_P D vwCl [(tp, .inr (10, [.ref tby, .int 15, .ref tki, .ref tva, .ref tpl, .int 0, .int 0, .int 0, .int 0, .int 0, .int 0])), (tby, .inl (cy 0, 400, .inl (fn_9)))] H := hP
  have hD : va_D A [(tp, .inr (10, [.ref tby, .int 15, .ref tki, .ref tva, .ref tpl, .int 0, .int 0, .int 0, .int 0, .int 0, .int 0])), (tby, .inl (cy 0, 400, .inl (fn_9)))] := hD
  refine lv_iinc (v := 0) (lv' := [(2, .int 0), (0, .ref tp), (1, .int x0)]) hx hb dX10_addBytes_43 hl (k := 0) rfl (by decide) (by decide) rfl (fun ls hl => ?_)
  refine lv_goto (tgt := 3) hx hb dX10_addBytes_46 (by decide) ?_
  refine lv_iload_n hx hb dX10_addBytes_3 rfl (lv_at hl 0 rfl) ?_
  refine lv_if_lt (tgt := 49) hx hb dX10_addBytes_4 (by decide) (fun q => absurd q (by decide)) (fun _ => ?_)
  refine lv_aload_n hx hb dX10_addBytes_7 rfl (lv_at hl 1 rfl) ?_
  refine va_get (D := D) (ci := 10) (v := .int 15) (C := RX10) (T := TX10) (N := 11) hx hb hG inG_X10 hown hE.1 hP 0 rfl rfl 1 (by decide) (hG _ q_f_X10_15) (fun _ h9 => h9) rfl dX10_addBytes_8 ?_
  refine lv_sipush (v := 400) hx hb dX10_addBytes_11 (by decide) ?_
  refine lv_icmp_ge (tgt := 49) hx hb dX10_addBytes_14 (by decide) (fun q => absurd q (by decide)) (fun _ => ?_)
  refine lv_aload_n hx hb dX10_addBytes_17 rfl (lv_at hl 1 rfl) ?_
  refine va_get (D := D) (ci := 10) (v := .ref tby) (C := RX10) (T := TX10) (N := 11) hx hb hG inG_X10 hown hE.1 hP 0 rfl rfl 0 (by decide) (hG _ q_f_X10_11) (fun _ h9 => h9) rfl dX10_addBytes_18 ?_
  refine lv_aload_n hx hb dX10_addBytes_21 rfl (lv_at hl 1 rfl) ?_
  refine va_get (D := D) (ci := 10) (v := .int 15) (C := RX10) (T := TX10) (N := 11) hx hb hG inG_X10 hown hE.1 hP 0 rfl rfl 1 (by decide) (hG _ q_f_X10_15) (fun _ h9 => h9) rfl dX10_addBytes_22 ?_
  refine lv_iload_n hx hb dX10_addBytes_25 rfl (lv_at hl 2 rfl) ?_
  refine lv_iload_n hx hb dX10_addBytes_26 rfl (lv_at hl 0 rfl) ?_
  refine lv_iushr hx hb dX10_addBytes_27 rfl ?_
  refine lv_topi (fun z_10 ez_10 => ?_)
  refine lv_sipush (v := 255) hx hb dX10_addBytes_28 (by decide) ?_
  refine lv_iand hx hb dX10_addBytes_31 ?_
  refine lv_topi (fun z_11 ez_11 => ?_)
  refine va_iast hx hb hE.1 hP hD hS 1 0 rfl rfl (by unfold vp_in; decide) dX10_addBytes_32 (fun H locs hP hD hS => ?_)
  generalize upd (fn_9) (Int32.toNatClampNeg 15) z_11 = fn_12 at hP hD
  have hP : va_P D vwCl [(tp, .inr (10, [.ref tby, .int 15, .ref tki, .ref tva, .ref tpl, .int 0, .int 0, .int 0, .int 0, .int 0, .int 0])), (tby, .inl (cy 0, 400, .inl (fn_12)))] H := hP
  have hD : va_D A [(tp, .inr (10, [.ref tby, .int 15, .ref tki, .ref tva, .ref tpl, .int 0, .int 0, .int 0, .int 0, .int 0, .int 0])), (tby, .inl (cy 0, 400, .inl (fn_12)))] := hD
  refine lv_aload_n hx hb dX10_addBytes_33 rfl (lv_at hl 1 rfl) ?_
  refine lv_dup hx hb dX10_addBytes_34 rfl ?_
  refine va_get (D := D) (ci := 10) (v := .int 15) (C := RX10) (T := TX10) (N := 11) hx hb hG inG_X10 hown hE.1 hP 0 rfl rfl 1 (by decide) (hG _ q_f_X10_15) (fun _ h9 => h9) rfl dX10_addBytes_35 ?_
  refine lv_iconst (v := 1) hx hb dX10_addBytes_38 (by decide) ?_
  refine lv_iadd hx hb dX10_addBytes_39 ?_
  refine k_top (z := 16) (by decide) ?_
  refine va_put (D := D) (ci := 10) (v := .int 16) (ty := .int) (C := RX10) (T := TX10) (N := 11) hx hb hG inG_X10 tyX10 tyX10_ok nmX10 hown hE.1 hP hD hS 0 rfl rfl 1 (by decide) (hG _ q_f_X10_15) (fun _ h9 => h9) rfl (by decide +kernel) rfl rfl (Nat.le_of_ble_eq_true rfl) dX10_addBytes_40 (fun H locs hP hD hS => ?_)
  have hP : va_P D vwCl [(tp, .inr (10, [.ref tby, .int 16, .ref tki, .ref tva, .ref tpl, .int 0, .int 0, .int 0, .int 0, .int 0, .int 0])), (tby, .inl (cy 0, 400, .inl (fn_12)))] H := hP
  have hD : va_D A [(tp, .inr (10, [.ref tby, .int 16, .ref tki, .ref tva, .ref tpl, .int 0, .int 0, .int 0, .int 0, .int 0, .int 0])), (tby, .inl (cy 0, 400, .inl (fn_12)))] := hD
  refine lv_iinc (v := (-8)) (lv' := [(2, .int (-8)), (0, .ref tp), (1, .int x0)]) hx hb dX10_addBytes_43 hl (k := 0) rfl (by decide) (by decide) rfl (fun ls hl => ?_)
  refine lv_goto (tgt := 3) hx hb dX10_addBytes_46 (by decide) ?_
  refine lv_iload_n hx hb dX10_addBytes_3 rfl (lv_at hl 0 rfl) ?_
  refine lv_if_lt (tgt := 49) hx hb dX10_addBytes_4 (by decide) (fun _ => ?_) (fun q => absurd q (by decide))
  exact KV.rt fn_12 F (hP.sub [0, 1] rfl) (hD.sub [0, 1] (by decide) rfl) hS (trivial) (Nat.le_of_ble_eq_true rfl) (Nat.le_of_ble_eq_true rfl) dX10_addBytes_49

set_option maxHeartbeats 4000000 in
set_option maxRecDepth 100000 in
theorem c_addBytes16 (l : Launch) (D : va_G) (cy : Nat → ClassId) (tp tby tki tva tpl : Nat) (fb : Nat → Int32) (x0 : Int32) : KV l yX10_addBytes cX10_addBytes 3 0 0 D (kTY cy) [.ref tp, .int x0] [(tp, .inr (10, [.ref tby, .int 16, .ref tki, .ref tva, .ref tpl, .int 0, .int 0, .int 0, .int 0, .int 0, .int 0])), (tby, .inl (cy 0, 400, .inl (fb)))] (S := Nat → Int32) (fun _ => True) (fun f => [(tp, .inr (10, [.ref tby, .int 20, .ref tki, .ref tva, .ref tpl, .int 0, .int 0, .int 0, .int 0, .int 0, .int 0])), (tby, .inl (cy 0, 400, .inl (f)))]) 0 0 := by
  refine KV.of (by decide) (Nat.le_of_ble_eq_true rfl) (fun p e s m below meth c ls A F hin hE hP hD hA hS hl => ?_)
  have F : kF p s m meth c cX10_addBytes 3 none _ RX10 := F
  obtain ⟨hx, hb, hr, hml, hown, hG, hlk⟩ := id F
  have hl : lv_has ls 3 [(0, .ref tp), (1, .int x0)] := hl
  refine lv_bipush (v := 24) hx hb dX10_addBytes_0 (by decide) ?_
  refine lv_istore_n (lv' := [(2, .int 24), (0, .ref tp), (1, .int x0)]) hx hb dX10_addBytes_2 rfl hl (by decide) rfl (fun ls hl => ?_)
  refine lv_iload_n hx hb dX10_addBytes_3 rfl (lv_at hl 0 rfl) ?_
  refine lv_if_lt (tgt := 49) hx hb dX10_addBytes_4 (by decide) (fun q => absurd q (by decide)) (fun _ => ?_)
  refine lv_aload_n hx hb dX10_addBytes_7 rfl (lv_at hl 1 rfl) ?_
  refine va_get (D := D) (ci := 10) (v := .int 16) (C := RX10) (T := TX10) (N := 11) hx hb hG inG_X10 hown hE.1 hP 0 rfl rfl 1 (by decide) (hG _ q_f_X10_15) (fun _ h9 => h9) rfl dX10_addBytes_8 ?_
  refine lv_sipush (v := 400) hx hb dX10_addBytes_11 (by decide) ?_
  refine lv_icmp_ge (tgt := 49) hx hb dX10_addBytes_14 (by decide) (fun q => absurd q (by decide)) (fun _ => ?_)
  refine lv_aload_n hx hb dX10_addBytes_17 rfl (lv_at hl 1 rfl) ?_
  refine va_get (D := D) (ci := 10) (v := .ref tby) (C := RX10) (T := TX10) (N := 11) hx hb hG inG_X10 hown hE.1 hP 0 rfl rfl 0 (by decide) (hG _ q_f_X10_11) (fun _ h9 => h9) rfl dX10_addBytes_18 ?_
  refine lv_aload_n hx hb dX10_addBytes_21 rfl (lv_at hl 1 rfl) ?_
  refine va_get (D := D) (ci := 10) (v := .int 16) (C := RX10) (T := TX10) (N := 11) hx hb hG inG_X10 hown hE.1 hP 0 rfl rfl 1 (by decide) (hG _ q_f_X10_15) (fun _ h9 => h9) rfl dX10_addBytes_22 ?_
  refine lv_iload_n hx hb dX10_addBytes_25 rfl (lv_at hl 2 rfl) ?_
  refine lv_iload_n hx hb dX10_addBytes_26 rfl (lv_at hl 0 rfl) ?_
  refine lv_iushr hx hb dX10_addBytes_27 rfl ?_
  refine lv_topi (fun z_1 ez_1 => ?_)
  refine lv_sipush (v := 255) hx hb dX10_addBytes_28 (by decide) ?_
  refine lv_iand hx hb dX10_addBytes_31 ?_
  refine lv_topi (fun z_2 ez_2 => ?_)
  refine va_iast hx hb hE.1 hP hD hS 1 0 rfl rfl (by unfold vp_in; decide) dX10_addBytes_32 (fun H locs hP hD hS => ?_)
  generalize upd (fb) (Int32.toNatClampNeg 16) z_2 = fn_3 at hP hD
  have hP : va_P D vwCl [(tp, .inr (10, [.ref tby, .int 16, .ref tki, .ref tva, .ref tpl, .int 0, .int 0, .int 0, .int 0, .int 0, .int 0])), (tby, .inl (cy 0, 400, .inl (fn_3)))] H := hP
  have hD : va_D A [(tp, .inr (10, [.ref tby, .int 16, .ref tki, .ref tva, .ref tpl, .int 0, .int 0, .int 0, .int 0, .int 0, .int 0])), (tby, .inl (cy 0, 400, .inl (fn_3)))] := hD
  refine lv_aload_n hx hb dX10_addBytes_33 rfl (lv_at hl 1 rfl) ?_
  refine lv_dup hx hb dX10_addBytes_34 rfl ?_
  refine va_get (D := D) (ci := 10) (v := .int 16) (C := RX10) (T := TX10) (N := 11) hx hb hG inG_X10 hown hE.1 hP 0 rfl rfl 1 (by decide) (hG _ q_f_X10_15) (fun _ h9 => h9) rfl dX10_addBytes_35 ?_
  refine lv_iconst (v := 1) hx hb dX10_addBytes_38 (by decide) ?_
  refine lv_iadd hx hb dX10_addBytes_39 ?_
  refine k_top (z := 17) (by decide) ?_
  refine va_put (D := D) (ci := 10) (v := .int 17) (ty := .int) (C := RX10) (T := TX10) (N := 11) hx hb hG inG_X10 tyX10 tyX10_ok nmX10 hown hE.1 hP hD hS 0 rfl rfl 1 (by decide) (hG _ q_f_X10_15) (fun _ h9 => h9) rfl (by decide +kernel) rfl rfl (Nat.le_of_ble_eq_true rfl) dX10_addBytes_40 (fun H locs hP hD hS => ?_)
  have hP : va_P D vwCl [(tp, .inr (10, [.ref tby, .int 17, .ref tki, .ref tva, .ref tpl, .int 0, .int 0, .int 0, .int 0, .int 0, .int 0])), (tby, .inl (cy 0, 400, .inl (fn_3)))] H := hP
  have hD : va_D A [(tp, .inr (10, [.ref tby, .int 17, .ref tki, .ref tva, .ref tpl, .int 0, .int 0, .int 0, .int 0, .int 0, .int 0])), (tby, .inl (cy 0, 400, .inl (fn_3)))] := hD
  refine lv_iinc (v := 16) (lv' := [(2, .int 16), (0, .ref tp), (1, .int x0)]) hx hb dX10_addBytes_43 hl (k := 0) rfl (by decide) (by decide) rfl (fun ls hl => ?_)
  refine lv_goto (tgt := 3) hx hb dX10_addBytes_46 (by decide) ?_
  refine lv_iload_n hx hb dX10_addBytes_3 rfl (lv_at hl 0 rfl) ?_
  refine lv_if_lt (tgt := 49) hx hb dX10_addBytes_4 (by decide) (fun q => absurd q (by decide)) (fun _ => ?_)
  refine lv_aload_n hx hb dX10_addBytes_7 rfl (lv_at hl 1 rfl) ?_
  refine va_get (D := D) (ci := 10) (v := .int 17) (C := RX10) (T := TX10) (N := 11) hx hb hG inG_X10 hown hE.1 hP 0 rfl rfl 1 (by decide) (hG _ q_f_X10_15) (fun _ h9 => h9) rfl dX10_addBytes_8 ?_
  refine lv_sipush (v := 400) hx hb dX10_addBytes_11 (by decide) ?_
  refine lv_icmp_ge (tgt := 49) hx hb dX10_addBytes_14 (by decide) (fun q => absurd q (by decide)) (fun _ => ?_)
  refine lv_aload_n hx hb dX10_addBytes_17 rfl (lv_at hl 1 rfl) ?_
  refine va_get (D := D) (ci := 10) (v := .ref tby) (C := RX10) (T := TX10) (N := 11) hx hb hG inG_X10 hown hE.1 hP 0 rfl rfl 0 (by decide) (hG _ q_f_X10_11) (fun _ h9 => h9) rfl dX10_addBytes_18 ?_
  refine lv_aload_n hx hb dX10_addBytes_21 rfl (lv_at hl 1 rfl) ?_
  refine va_get (D := D) (ci := 10) (v := .int 17) (C := RX10) (T := TX10) (N := 11) hx hb hG inG_X10 hown hE.1 hP 0 rfl rfl 1 (by decide) (hG _ q_f_X10_15) (fun _ h9 => h9) rfl dX10_addBytes_22 ?_
  refine lv_iload_n hx hb dX10_addBytes_25 rfl (lv_at hl 2 rfl) ?_
  refine lv_iload_n hx hb dX10_addBytes_26 rfl (lv_at hl 0 rfl) ?_
  refine lv_iushr hx hb dX10_addBytes_27 rfl ?_
  refine lv_topi (fun z_4 ez_4 => ?_)
  refine lv_sipush (v := 255) hx hb dX10_addBytes_28 (by decide) ?_
  refine lv_iand hx hb dX10_addBytes_31 ?_
  refine lv_topi (fun z_5 ez_5 => ?_)
  refine va_iast hx hb hE.1 hP hD hS 1 0 rfl rfl (by unfold vp_in; decide) dX10_addBytes_32 (fun H locs hP hD hS => ?_)
  generalize upd (fn_3) (Int32.toNatClampNeg 17) z_5 = fn_6 at hP hD
  have hP : va_P D vwCl [(tp, .inr (10, [.ref tby, .int 17, .ref tki, .ref tva, .ref tpl, .int 0, .int 0, .int 0, .int 0, .int 0, .int 0])), (tby, .inl (cy 0, 400, .inl (fn_6)))] H := hP
  have hD : va_D A [(tp, .inr (10, [.ref tby, .int 17, .ref tki, .ref tva, .ref tpl, .int 0, .int 0, .int 0, .int 0, .int 0, .int 0])), (tby, .inl (cy 0, 400, .inl (fn_6)))] := hD
  refine lv_aload_n hx hb dX10_addBytes_33 rfl (lv_at hl 1 rfl) ?_
  refine lv_dup hx hb dX10_addBytes_34 rfl ?_
  refine va_get (D := D) (ci := 10) (v := .int 17) (C := RX10) (T := TX10) (N := 11) hx hb hG inG_X10 hown hE.1 hP 0 rfl rfl 1 (by decide) (hG _ q_f_X10_15) (fun _ h9 => h9) rfl dX10_addBytes_35 ?_
  refine lv_iconst (v := 1) hx hb dX10_addBytes_38 (by decide) ?_
  refine lv_iadd hx hb dX10_addBytes_39 ?_
  refine k_top (z := 18) (by decide) ?_
  refine va_put (D := D) (ci := 10) (v := .int 18) (ty := .int) (C := RX10) (T := TX10) (N := 11) hx hb hG inG_X10 tyX10 tyX10_ok nmX10 hown hE.1 hP hD hS 0 rfl rfl 1 (by decide) (hG _ q_f_X10_15) (fun _ h9 => h9) rfl (by decide +kernel) rfl rfl (Nat.le_of_ble_eq_true rfl) dX10_addBytes_40 (fun H locs hP hD hS => ?_)
  have hP : va_P D vwCl [(tp, .inr (10, [.ref tby, .int 18, .ref tki, .ref tva, .ref tpl, .int 0, .int 0, .int 0, .int 0, .int 0, .int 0])), (tby, .inl (cy 0, 400, .inl (fn_6)))] H := hP
  have hD : va_D A [(tp, .inr (10, [.ref tby, .int 18, .ref tki, .ref tva, .ref tpl, .int 0, .int 0, .int 0, .int 0, .int 0, .int 0])), (tby, .inl (cy 0, 400, .inl (fn_6)))] := hD
  refine lv_iinc (v := 8) (lv' := [(2, .int 8), (0, .ref tp), (1, .int x0)]) hx hb dX10_addBytes_43 hl (k := 0) rfl (by decide) (by decide) rfl (fun ls hl => ?_)
  refine lv_goto (tgt := 3) hx hb dX10_addBytes_46 (by decide) ?_
  refine lv_iload_n hx hb dX10_addBytes_3 rfl (lv_at hl 0 rfl) ?_
  refine lv_if_lt (tgt := 49) hx hb dX10_addBytes_4 (by decide) (fun q => absurd q (by decide)) (fun _ => ?_)
  refine lv_aload_n hx hb dX10_addBytes_7 rfl (lv_at hl 1 rfl) ?_
  refine va_get (D := D) (ci := 10) (v := .int 18) (C := RX10) (T := TX10) (N := 11) hx hb hG inG_X10 hown hE.1 hP 0 rfl rfl 1 (by decide) (hG _ q_f_X10_15) (fun _ h9 => h9) rfl dX10_addBytes_8 ?_
  refine lv_sipush (v := 400) hx hb dX10_addBytes_11 (by decide) ?_
  refine lv_icmp_ge (tgt := 49) hx hb dX10_addBytes_14 (by decide) (fun q => absurd q (by decide)) (fun _ => ?_)
  refine lv_aload_n hx hb dX10_addBytes_17 rfl (lv_at hl 1 rfl) ?_
  refine va_get (D := D) (ci := 10) (v := .ref tby) (C := RX10) (T := TX10) (N := 11) hx hb hG inG_X10 hown hE.1 hP 0 rfl rfl 0 (by decide) (hG _ q_f_X10_11) (fun _ h9 => h9) rfl dX10_addBytes_18 ?_
  refine lv_aload_n hx hb dX10_addBytes_21 rfl (lv_at hl 1 rfl) ?_
  refine va_get (D := D) (ci := 10) (v := .int 18) (C := RX10) (T := TX10) (N := 11) hx hb hG inG_X10 hown hE.1 hP 0 rfl rfl 1 (by decide) (hG _ q_f_X10_15) (fun _ h9 => h9) rfl dX10_addBytes_22 ?_
  refine lv_iload_n hx hb dX10_addBytes_25 rfl (lv_at hl 2 rfl) ?_
  refine lv_iload_n hx hb dX10_addBytes_26 rfl (lv_at hl 0 rfl) ?_
  refine lv_iushr hx hb dX10_addBytes_27 rfl ?_
  refine lv_topi (fun z_7 ez_7 => ?_)
  refine lv_sipush (v := 255) hx hb dX10_addBytes_28 (by decide) ?_
  refine lv_iand hx hb dX10_addBytes_31 ?_
  refine lv_topi (fun z_8 ez_8 => ?_)
  refine va_iast hx hb hE.1 hP hD hS 1 0 rfl rfl (by unfold vp_in; decide) dX10_addBytes_32 (fun H locs hP hD hS => ?_)
  generalize upd (fn_6) (Int32.toNatClampNeg 18) z_8 = fn_9 at hP hD
  have hP : va_P D vwCl [(tp, .inr (10, [.ref tby, .int 18, .ref tki, .ref tva, .ref tpl, .int 0, .int 0, .int 0, .int 0, .int 0, .int 0])), (tby, .inl (cy 0, 400, .inl (fn_9)))] H := hP
  have hD : va_D A [(tp, .inr (10, [.ref tby, .int 18, .ref tki, .ref tva, .ref tpl, .int 0, .int 0, .int 0, .int 0, .int 0, .int 0])), (tby, .inl (cy 0, 400, .inl (fn_9)))] := hD
  refine lv_aload_n hx hb dX10_addBytes_33 rfl (lv_at hl 1 rfl) ?_
  refine lv_dup hx hb dX10_addBytes_34 rfl ?_
  refine va_get (D := D) (ci := 10) (v := .int 18) (C := RX10) (T := TX10) (N := 11) hx hb hG inG_X10 hown hE.1 hP 0 rfl rfl 1 (by decide) (hG _ q_f_X10_15) (fun _ h9 => h9) rfl dX10_addBytes_35 ?_
  refine lv_iconst (v := 1) hx hb dX10_addBytes_38 (by decide) ?_
  refine lv_iadd hx hb dX10_addBytes_39 ?_
  refine k_top (z := 19) (by decide) ?_
  refine va_put (D := D) (ci := 10) (v := .int 19) (ty := .int) (C := RX10) (T := TX10) (N := 11) hx hb hG inG_X10 tyX10 tyX10_ok nmX10 hown hE.1 hP hD hS 0 rfl rfl 1 (by decide) (hG _ q_f_X10_15) (fun _ h9 => h9) rfl (by decide +kernel) rfl rfl (Nat.le_of_ble_eq_true rfl) dX10_addBytes_40 (fun H locs hP hD hS => ?_)
  have hP : va_P D vwCl [(tp, .inr (10, [.ref tby, .int 19, .ref tki, .ref tva, .ref tpl, .int 0, .int 0, .int 0, .int 0, .int 0, .int 0])), (tby, .inl (cy 0, 400, .inl (fn_9)))] H := hP
  have hD : va_D A [(tp, .inr (10, [.ref tby, .int 19, .ref tki, .ref tva, .ref tpl, .int 0, .int 0, .int 0, .int 0, .int 0, .int 0])), (tby, .inl (cy 0, 400, .inl (fn_9)))] := hD
  refine lv_iinc (v := 0) (lv' := [(2, .int 0), (0, .ref tp), (1, .int x0)]) hx hb dX10_addBytes_43 hl (k := 0) rfl (by decide) (by decide) rfl (fun ls hl => ?_)
  refine lv_goto (tgt := 3) hx hb dX10_addBytes_46 (by decide) ?_
  refine lv_iload_n hx hb dX10_addBytes_3 rfl (lv_at hl 0 rfl) ?_
  refine lv_if_lt (tgt := 49) hx hb dX10_addBytes_4 (by decide) (fun q => absurd q (by decide)) (fun _ => ?_)
  refine lv_aload_n hx hb dX10_addBytes_7 rfl (lv_at hl 1 rfl) ?_
  refine va_get (D := D) (ci := 10) (v := .int 19) (C := RX10) (T := TX10) (N := 11) hx hb hG inG_X10 hown hE.1 hP 0 rfl rfl 1 (by decide) (hG _ q_f_X10_15) (fun _ h9 => h9) rfl dX10_addBytes_8 ?_
  refine lv_sipush (v := 400) hx hb dX10_addBytes_11 (by decide) ?_
  refine lv_icmp_ge (tgt := 49) hx hb dX10_addBytes_14 (by decide) (fun q => absurd q (by decide)) (fun _ => ?_)
  refine lv_aload_n hx hb dX10_addBytes_17 rfl (lv_at hl 1 rfl) ?_
  refine va_get (D := D) (ci := 10) (v := .ref tby) (C := RX10) (T := TX10) (N := 11) hx hb hG inG_X10 hown hE.1 hP 0 rfl rfl 0 (by decide) (hG _ q_f_X10_11) (fun _ h9 => h9) rfl dX10_addBytes_18 ?_
  refine lv_aload_n hx hb dX10_addBytes_21 rfl (lv_at hl 1 rfl) ?_
  refine va_get (D := D) (ci := 10) (v := .int 19) (C := RX10) (T := TX10) (N := 11) hx hb hG inG_X10 hown hE.1 hP 0 rfl rfl 1 (by decide) (hG _ q_f_X10_15) (fun _ h9 => h9) rfl dX10_addBytes_22 ?_
  refine lv_iload_n hx hb dX10_addBytes_25 rfl (lv_at hl 2 rfl) ?_
  refine lv_iload_n hx hb dX10_addBytes_26 rfl (lv_at hl 0 rfl) ?_
  refine lv_iushr hx hb dX10_addBytes_27 rfl ?_
  refine lv_topi (fun z_10 ez_10 => ?_)
  refine lv_sipush (v := 255) hx hb dX10_addBytes_28 (by decide) ?_
  refine lv_iand hx hb dX10_addBytes_31 ?_
  refine lv_topi (fun z_11 ez_11 => ?_)
  refine va_iast hx hb hE.1 hP hD hS 1 0 rfl rfl (by unfold vp_in; decide) dX10_addBytes_32 (fun H locs hP hD hS => ?_)
  generalize upd (fn_9) (Int32.toNatClampNeg 19) z_11 = fn_12 at hP hD
  have hP : va_P D vwCl [(tp, .inr (10, [.ref tby, .int 19, .ref tki, .ref tva, .ref tpl, .int 0, .int 0, .int 0, .int 0, .int 0, .int 0])), (tby, .inl (cy 0, 400, .inl (fn_12)))] H := hP
  have hD : va_D A [(tp, .inr (10, [.ref tby, .int 19, .ref tki, .ref tva, .ref tpl, .int 0, .int 0, .int 0, .int 0, .int 0, .int 0])), (tby, .inl (cy 0, 400, .inl (fn_12)))] := hD
  refine lv_aload_n hx hb dX10_addBytes_33 rfl (lv_at hl 1 rfl) ?_
  refine lv_dup hx hb dX10_addBytes_34 rfl ?_
  refine va_get (D := D) (ci := 10) (v := .int 19) (C := RX10) (T := TX10) (N := 11) hx hb hG inG_X10 hown hE.1 hP 0 rfl rfl 1 (by decide) (hG _ q_f_X10_15) (fun _ h9 => h9) rfl dX10_addBytes_35 ?_
  refine lv_iconst (v := 1) hx hb dX10_addBytes_38 (by decide) ?_
  refine lv_iadd hx hb dX10_addBytes_39 ?_
  refine k_top (z := 20) (by decide) ?_
  refine va_put (D := D) (ci := 10) (v := .int 20) (ty := .int) (C := RX10) (T := TX10) (N := 11) hx hb hG inG_X10 tyX10 tyX10_ok nmX10 hown hE.1 hP hD hS 0 rfl rfl 1 (by decide) (hG _ q_f_X10_15) (fun _ h9 => h9) rfl (by decide +kernel) rfl rfl (Nat.le_of_ble_eq_true rfl) dX10_addBytes_40 (fun H locs hP hD hS => ?_)
  have hP : va_P D vwCl [(tp, .inr (10, [.ref tby, .int 20, .ref tki, .ref tva, .ref tpl, .int 0, .int 0, .int 0, .int 0, .int 0, .int 0])), (tby, .inl (cy 0, 400, .inl (fn_12)))] H := hP
  have hD : va_D A [(tp, .inr (10, [.ref tby, .int 20, .ref tki, .ref tva, .ref tpl, .int 0, .int 0, .int 0, .int 0, .int 0, .int 0])), (tby, .inl (cy 0, 400, .inl (fn_12)))] := hD
  refine lv_iinc (v := (-8)) (lv' := [(2, .int (-8)), (0, .ref tp), (1, .int x0)]) hx hb dX10_addBytes_43 hl (k := 0) rfl (by decide) (by decide) rfl (fun ls hl => ?_)
  refine lv_goto (tgt := 3) hx hb dX10_addBytes_46 (by decide) ?_
  refine lv_iload_n hx hb dX10_addBytes_3 rfl (lv_at hl 0 rfl) ?_
  refine lv_if_lt (tgt := 49) hx hb dX10_addBytes_4 (by decide) (fun _ => ?_) (fun q => absurd q (by decide))
  exact KV.rt fn_12 F (hP.sub [0, 1] rfl) (hD.sub [0, 1] (by decide) rfl) hS (trivial) (Nat.le_of_ble_eq_true rfl) (Nat.le_of_ble_eq_true rfl) dX10_addBytes_49

set_option maxHeartbeats 4000000 in
set_option maxRecDepth 100000 in
theorem c_hasRoom (l : Launch) (D : va_G) (cy : Nat → ClassId) (tp tby tki tva tpl : Nat) : KP l yX10_hasRoom cX10_hasRoom 2 (some .boolean) 0 0 D (kTY cy) [.ref tp, .int 20] [(tp, .inr (10, [.ref tby, .int 0, .ref tki, .ref tva, .ref tpl, .int 0, .int 0, .int 0, .int 0, .int 0, .int 0]))] (fun r => r = 1) := by
  refine KP.of (by decide) (Nat.le_of_ble_eq_true rfl) (fun p e s m below meth c ls F hE hP hl => ?_)
  have F : kF p s m meth c cX10_hasRoom 2 (some .boolean) _ RX10 := F
  obtain ⟨hx, hb, hr, hml, hown, hG, hlk⟩ := id F
  have hl : lv_has ls 2 [(0, .ref tp), (1, .int 20)] := hl
  refine lv_aload_n hx hb dX10_hasRoom_0 rfl (lv_at hl 0 rfl) ?_
  refine va_get (D := D) (ci := 10) (v := .int 0) (C := RX10) (T := TX10) (N := 11) hx hb hG inG_X10 hown hE.1 hP 0 rfl rfl 1 (by decide) (hG _ q_f_X10_15) (fun _ h9 => h9) rfl dX10_hasRoom_1 ?_
  refine lv_iload_n hx hb dX10_hasRoom_4 rfl (lv_at hl 1 rfl) ?_
  refine lv_iadd hx hb dX10_hasRoom_5 ?_
  refine k_top (z := 20) (by decide) ?_
  refine lv_sipush (v := 400) hx hb dX10_hasRoom_6 (by decide) ?_
  refine lv_icmp_gt (tgt := 16) hx hb dX10_hasRoom_9 (by decide) (fun q => absurd q (by decide)) (fun _ => ?_)
  refine lv_iconst (v := 1) hx hb dX10_hasRoom_12 (by decide) ?_
  refine lv_goto (tgt := 17) hx hb dX10_hasRoom_13 (by decide) ?_
  exact KP.rt F rfl (rfl) dX10_hasRoom_17

set_option maxHeartbeats 4000000 in
set_option maxRecDepth 100000 in
theorem x_feed (l : Launch) (D : va_G) (cy : Nat → ClassId) (h0 tp gr rr ru nw im ac py fo su : Nat) (tby tki tva tpl : Nat) (x0 : Int32) (x1 : Int32) (x2 : Int32) (x3 : Int32) (x4 : Int32) : KI l yX11_feed cX11_feed 6 (some .int) 1 22 D (kTY cy) [.ref h0, .int x0, .int x1, .int x2, .int x3, .int x4] [(h0, .inr (11, [.ref tp, .ref gr, .ref rr, .ref ru, .int 0, .ref nw, .ref im, .ref ac, .ref py, .ref fo, .ref su])), (tp, .inr (10, [.ref tby, .int 0, .ref tki, .ref tva, .ref tpl, .int 0, .int 0, .int 0, .int 0, .int 0, .int 0])), (tby, .inl (cy 0, 400, .inl (fun _ => 0)))] (S := Unit) (fun r _ => r = 20) (fun _ => []) 0 0 := by
  refine KI.of (by decide) (Nat.le_of_ble_eq_true rfl) (fun p e s m below meth c ls A F hE hP hD hA hS hl => ?_)
  have F : kF p s m meth c cX11_feed 6 (some .int) _ RX11 := F
  obtain ⟨hx, hb, hr, hml, hown, hG, hlk⟩ := id F
  have hl : lv_has ls 6 [(0, .ref h0), (1, .int x0), (2, .int x1), (3, .int x2), (4, .int x3), (5, .int x4)] := hl
  refine lv_aload_n hx hb dX11_feed_0 rfl (lv_at hl 0 rfl) ?_
  refine va_get (D := D) (ci := 11) (v := .ref tp) (C := RX11) (T := TX11) (N := 11) hx hb hG inG_X11 hown hE.1 hP 0 rfl rfl 0 (by decide) (hG _ q_f_X11_10) (fun _ h9 => h9) rfl dX11_feed_1 ?_
  refine lv_bipush (v := 20) hx hb dX11_feed_4 (by decide) ?_
  refine kcV (As := [.int 20]) (rest := []) F hE hP hl.1 (c_hasRoom l D cy (tp := tp) (tby := tby) (tki := tki) (tva := tva) (tpl := tpl)) q_m_X11_79 mv_X10_hasRoom ⟨(Nat.le_of_ble_eq_true rfl), (Nat.le_of_ble_eq_true rfl)⟩ [1] rfl rfl rfl rfl rfl rfl (Nat.le_of_ble_eq_true rfl) ⟨(Nat.le_of_ble_eq_true rfl), (Nat.le_of_ble_eq_true rfl)⟩ dX11_feed_6 (fun r_1 er_1 => ?_)
  subst er_1
  refine lv_if_ne (tgt := 14) hx hb dX11_feed_9 (by decide) (fun _ => ?_) (fun q => absurd q (by decide))
  refine lv_aload_n hx hb dX11_feed_14 rfl (lv_at hl 0 rfl) ?_
  refine va_get (D := D) (ci := 11) (v := .ref tp) (C := RX11) (T := TX11) (N := 11) hx hb hG inG_X11 hown hE.1 hP 0 rfl rfl 0 (by decide) (hG _ q_f_X11_10) (fun _ h9 => h9) rfl dX11_feed_15 ?_
  refine lv_iload_n hx hb dX11_feed_18 rfl (lv_at hl 1 rfl) ?_
  refine kwVV (wr := [(h0, .inr (11, [.ref tp, .ref gr, .ref rr, .ref ru, .int 0, .ref nw, .ref im, .ref ac, .ref py, .ref fo, .ref su]))]) (As := [.int x0]) (rest := []) F hE hP hD hS hA hl.1 (c_addBytes0 l D cy (tp := tp) (x0 := x0) (tby := tby) (tki := tki) (tva := tva) (tpl := tpl) (fb := (fun _ => 0))) q_m_X11_83 mv_X10_addBytes ⟨(Nat.le_of_ble_eq_true rfl), (Nat.le_of_ble_eq_true rfl)⟩ [1, 2] [0] (by decide) rfl rfl (by decide) (by decide) rfl rfl rfl rfl rfl (Nat.le_of_ble_eq_true rfl) ⟨(Nat.le_of_ble_eq_true rfl), (Nat.le_of_ble_eq_true rfl)⟩ dX11_feed_19 (fun u_2 H locs eu_2 hP hD hS => ?_)
  have hP : va_P D vwCl [(h0, .inr (11, [.ref tp, .ref gr, .ref rr, .ref ru, .int 0, .ref nw, .ref im, .ref ac, .ref py, .ref fo, .ref su])), (tp, .inr (10, [.ref tby, .int 4, .ref tki, .ref tva, .ref tpl, .int 0, .int 0, .int 0, .int 0, .int 0, .int 0])), (tby, .inl (cy 0, 400, .inl (u_2)))] H := hP
  have hD : va_D A [(h0, .inr (11, [.ref tp, .ref gr, .ref rr, .ref ru, .int 0, .ref nw, .ref im, .ref ac, .ref py, .ref fo, .ref su])), (tp, .inr (10, [.ref tby, .int 4, .ref tki, .ref tva, .ref tpl, .int 0, .int 0, .int 0, .int 0, .int 0, .int 0])), (tby, .inl (cy 0, 400, .inl (u_2)))] := hD
  refine lv_aload_n hx hb dX11_feed_22 rfl (lv_at hl 0 rfl) ?_
  refine va_get (D := D) (ci := 11) (v := .ref tp) (C := RX11) (T := TX11) (N := 11) hx hb hG inG_X11 hown hE.1 hP 0 rfl rfl 0 (by decide) (hG _ q_f_X11_10) (fun _ h9 => h9) rfl dX11_feed_23 ?_
  refine lv_iload_n hx hb dX11_feed_26 rfl (lv_at hl 2 rfl) ?_
  refine kwVV (wr := [(h0, .inr (11, [.ref tp, .ref gr, .ref rr, .ref ru, .int 0, .ref nw, .ref im, .ref ac, .ref py, .ref fo, .ref su]))]) (As := [.int x1]) (rest := []) F hE hP hD hS hA hl.1 (c_addBytes4 l D cy (tp := tp) (x0 := x1) (tby := tby) (tki := tki) (tva := tva) (tpl := tpl) (fb := u_2)) q_m_X11_83 mv_X10_addBytes ⟨(Nat.le_of_ble_eq_true rfl), (Nat.le_of_ble_eq_true rfl)⟩ [1, 2] [0] (by decide) rfl rfl (by decide) (by decide) rfl rfl rfl rfl rfl (Nat.le_of_ble_eq_true rfl) ⟨(Nat.le_of_ble_eq_true rfl), (Nat.le_of_ble_eq_true rfl)⟩ dX11_feed_27 (fun u_3 H locs eu_3 hP hD hS => ?_)
  have hP : va_P D vwCl [(h0, .inr (11, [.ref tp, .ref gr, .ref rr, .ref ru, .int 0, .ref nw, .ref im, .ref ac, .ref py, .ref fo, .ref su])), (tp, .inr (10, [.ref tby, .int 8, .ref tki, .ref tva, .ref tpl, .int 0, .int 0, .int 0, .int 0, .int 0, .int 0])), (tby, .inl (cy 0, 400, .inl (u_3)))] H := hP
  have hD : va_D A [(h0, .inr (11, [.ref tp, .ref gr, .ref rr, .ref ru, .int 0, .ref nw, .ref im, .ref ac, .ref py, .ref fo, .ref su])), (tp, .inr (10, [.ref tby, .int 8, .ref tki, .ref tva, .ref tpl, .int 0, .int 0, .int 0, .int 0, .int 0, .int 0])), (tby, .inl (cy 0, 400, .inl (u_3)))] := hD
  refine lv_aload_n hx hb dX11_feed_30 rfl (lv_at hl 0 rfl) ?_
  refine va_get (D := D) (ci := 11) (v := .ref tp) (C := RX11) (T := TX11) (N := 11) hx hb hG inG_X11 hown hE.1 hP 0 rfl rfl 0 (by decide) (hG _ q_f_X11_10) (fun _ h9 => h9) rfl dX11_feed_31 ?_
  refine lv_iload_n hx hb dX11_feed_34 rfl (lv_at hl 3 rfl) ?_
  refine kwVV (wr := [(h0, .inr (11, [.ref tp, .ref gr, .ref rr, .ref ru, .int 0, .ref nw, .ref im, .ref ac, .ref py, .ref fo, .ref su]))]) (As := [.int x2]) (rest := []) F hE hP hD hS hA hl.1 (c_addBytes8 l D cy (tp := tp) (x0 := x2) (tby := tby) (tki := tki) (tva := tva) (tpl := tpl) (fb := u_3)) q_m_X11_83 mv_X10_addBytes ⟨(Nat.le_of_ble_eq_true rfl), (Nat.le_of_ble_eq_true rfl)⟩ [1, 2] [0] (by decide) rfl rfl (by decide) (by decide) rfl rfl rfl rfl rfl (Nat.le_of_ble_eq_true rfl) ⟨(Nat.le_of_ble_eq_true rfl), (Nat.le_of_ble_eq_true rfl)⟩ dX11_feed_35 (fun u_4 H locs eu_4 hP hD hS => ?_)
  have hP : va_P D vwCl [(h0, .inr (11, [.ref tp, .ref gr, .ref rr, .ref ru, .int 0, .ref nw, .ref im, .ref ac, .ref py, .ref fo, .ref su])), (tp, .inr (10, [.ref tby, .int 12, .ref tki, .ref tva, .ref tpl, .int 0, .int 0, .int 0, .int 0, .int 0, .int 0])), (tby, .inl (cy 0, 400, .inl (u_4)))] H := hP
  have hD : va_D A [(h0, .inr (11, [.ref tp, .ref gr, .ref rr, .ref ru, .int 0, .ref nw, .ref im, .ref ac, .ref py, .ref fo, .ref su])), (tp, .inr (10, [.ref tby, .int 12, .ref tki, .ref tva, .ref tpl, .int 0, .int 0, .int 0, .int 0, .int 0, .int 0])), (tby, .inl (cy 0, 400, .inl (u_4)))] := hD
  refine lv_aload_n hx hb dX11_feed_38 rfl (lv_at hl 0 rfl) ?_
  refine va_get (D := D) (ci := 11) (v := .ref tp) (C := RX11) (T := TX11) (N := 11) hx hb hG inG_X11 hown hE.1 hP 0 rfl rfl 0 (by decide) (hG _ q_f_X11_10) (fun _ h9 => h9) rfl dX11_feed_39 ?_
  refine lv_iload hx hb dX11_feed_42 (lv_at hl 4 rfl) ?_
  refine kwVV (wr := [(h0, .inr (11, [.ref tp, .ref gr, .ref rr, .ref ru, .int 0, .ref nw, .ref im, .ref ac, .ref py, .ref fo, .ref su]))]) (As := [.int x3]) (rest := []) F hE hP hD hS hA hl.1 (c_addBytes12 l D cy (tp := tp) (x0 := x3) (tby := tby) (tki := tki) (tva := tva) (tpl := tpl) (fb := u_4)) q_m_X11_83 mv_X10_addBytes ⟨(Nat.le_of_ble_eq_true rfl), (Nat.le_of_ble_eq_true rfl)⟩ [1, 2] [0] (by decide) rfl rfl (by decide) (by decide) rfl rfl rfl rfl rfl (Nat.le_of_ble_eq_true rfl) ⟨(Nat.le_of_ble_eq_true rfl), (Nat.le_of_ble_eq_true rfl)⟩ dX11_feed_44 (fun u_5 H locs eu_5 hP hD hS => ?_)
  have hP : va_P D vwCl [(h0, .inr (11, [.ref tp, .ref gr, .ref rr, .ref ru, .int 0, .ref nw, .ref im, .ref ac, .ref py, .ref fo, .ref su])), (tp, .inr (10, [.ref tby, .int 16, .ref tki, .ref tva, .ref tpl, .int 0, .int 0, .int 0, .int 0, .int 0, .int 0])), (tby, .inl (cy 0, 400, .inl (u_5)))] H := hP
  have hD : va_D A [(h0, .inr (11, [.ref tp, .ref gr, .ref rr, .ref ru, .int 0, .ref nw, .ref im, .ref ac, .ref py, .ref fo, .ref su])), (tp, .inr (10, [.ref tby, .int 16, .ref tki, .ref tva, .ref tpl, .int 0, .int 0, .int 0, .int 0, .int 0, .int 0])), (tby, .inl (cy 0, 400, .inl (u_5)))] := hD
  refine lv_aload_n hx hb dX11_feed_47 rfl (lv_at hl 0 rfl) ?_
  refine va_get (D := D) (ci := 11) (v := .ref tp) (C := RX11) (T := TX11) (N := 11) hx hb hG inG_X11 hown hE.1 hP 0 rfl rfl 0 (by decide) (hG _ q_f_X11_10) (fun _ h9 => h9) rfl dX11_feed_48 ?_
  refine lv_iload hx hb dX11_feed_51 (lv_at hl 5 rfl) ?_
  refine kwVV (wr := [(h0, .inr (11, [.ref tp, .ref gr, .ref rr, .ref ru, .int 0, .ref nw, .ref im, .ref ac, .ref py, .ref fo, .ref su]))]) (As := [.int x4]) (rest := []) F hE hP hD hS hA hl.1 (c_addBytes16 l D cy (tp := tp) (x0 := x4) (tby := tby) (tki := tki) (tva := tva) (tpl := tpl) (fb := u_5)) q_m_X11_83 mv_X10_addBytes ⟨(Nat.le_of_ble_eq_true rfl), (Nat.le_of_ble_eq_true rfl)⟩ [1, 2] [0] (by decide) rfl rfl (by decide) (by decide) rfl rfl rfl rfl rfl (Nat.le_of_ble_eq_true rfl) ⟨(Nat.le_of_ble_eq_true rfl), (Nat.le_of_ble_eq_true rfl)⟩ dX11_feed_53 (fun u_6 H locs eu_6 hP hD hS => ?_)
  have hP : va_P D vwCl [(h0, .inr (11, [.ref tp, .ref gr, .ref rr, .ref ru, .int 0, .ref nw, .ref im, .ref ac, .ref py, .ref fo, .ref su])), (tp, .inr (10, [.ref tby, .int 20, .ref tki, .ref tva, .ref tpl, .int 0, .int 0, .int 0, .int 0, .int 0, .int 0])), (tby, .inl (cy 0, 400, .inl (u_6)))] H := hP
  have hD : va_D A [(h0, .inr (11, [.ref tp, .ref gr, .ref rr, .ref ru, .int 0, .ref nw, .ref im, .ref ac, .ref py, .ref fo, .ref su])), (tp, .inr (10, [.ref tby, .int 20, .ref tki, .ref tva, .ref tpl, .int 0, .int 0, .int 0, .int 0, .int 0, .int 0])), (tby, .inl (cy 0, 400, .inl (u_6)))] := hD
  refine lv_aload_n hx hb dX11_feed_56 rfl (lv_at hl 0 rfl) ?_
  refine va_get (D := D) (ci := 11) (v := .ref tp) (C := RX11) (T := TX11) (N := 11) hx hb hG inG_X11 hown hE.1 hP 0 rfl rfl 0 (by decide) (hG _ q_f_X11_10) (fun _ h9 => h9) rfl dX11_feed_57 ?_
  refine va_get (D := D) (ci := 10) (v := .int 20) (C := RX10) (T := TX10) (N := 11) hx hb hG inG_X10 hown hE.1 hP 1 rfl rfl 1 (by decide) (hG _ q_f_X11_87) (fun _ h9 => h9) rfl dX11_feed_60 ?_
  exact KI.rt () F rfl (hP.sub [] rfl) (hD.sub [] (by decide) rfl) hS (rfl) (Nat.le_of_ble_eq_true rfl) (Nat.le_of_ble_eq_true rfl) dX11_feed_63

set_option maxHeartbeats 4000000 in
set_option maxRecDepth 100000 in
theorem x_end (l : Launch) (D : va_G) (cy : Nat → ClassId) (h0 tp gr rr ru nw im ac py fo su : Nat) (tby tki tva tpl : Nat) (x0 : Int32) : KI l yX11_end cX11_end 2 (some .int) 1 22 D (kTY cy) [.ref h0, .int x0] [(h0, .inr (11, [.ref tp, .ref gr, .ref rr, .ref ru, .int 0, .ref nw, .ref im, .ref ac, .ref py, .ref fo, .ref su])), (tp, .inr (10, [.ref tby, .int 0, .ref tki, .ref tva, .ref tpl, .int 0, .int 0, .int 0, .int 0, .int 0, .int 0]))] (S := Unit) (fun r _ => r = if x0 < 0 ∨ 0 < x0 then -1 else x0) (fun _ => []) 0 0 := by
  refine KI.of (by decide) (Nat.le_of_ble_eq_true rfl) (fun p e s m below meth c ls A F hE hP hD hA hS hl => ?_)
  have F : kF p s m meth c cX11_end 2 (some .int) _ RX11 := F
  obtain ⟨hx, hb, hr, hml, hown, hG, hlk⟩ := id F
  have hl : lv_has ls 2 [(0, .ref h0), (1, .int x0)] := hl
  refine lv_iload_n hx hb dX11_end_0 rfl (lv_at hl 1 rfl) ?_
  refine lv_iconst (v := 0) hx hb dX11_end_1 (by decide) ?_
  refine lv_aload_n hx hb dX11_end_2 rfl (lv_at hl 0 rfl) ?_
  refine va_get (D := D) (ci := 11) (v := .ref tp) (C := RX11) (T := TX11) (N := 11) hx hb hG inG_X11 hown hE.1 hP 0 rfl rfl 0 (by decide) (hG _ q_f_X11_10) (fun _ h9 => h9) rfl dX11_end_3 ?_
  refine va_get (D := D) (ci := 10) (v := .int 0) (C := RX10) (T := TX10) (N := 11) hx hb hG inG_X10 hown hE.1 hP 1 rfl rfl 1 (by decide) (hG _ q_f_X11_87) (fun _ h9 => h9) rfl dX11_end_6 ?_
  refine kcS (As := [.int x0, .int 0, .int 0]) (rest := []) F hE hP hl.1 (c_within l D cy (x0 := x0) (x1 := 0) (x2 := 0)) q_m_X11_90 ms_X11_within ⟨(Nat.le_of_ble_eq_true rfl), (Nat.le_of_ble_eq_true rfl)⟩ [] rfl rfl rfl (Nat.le_of_ble_eq_true rfl) ⟨(Nat.le_of_ble_eq_true rfl), (Nat.le_of_ble_eq_true rfl)⟩ dX11_end_9 (fun r_1 er_1 => ?_)
  refine lv_if_ne (tgt := 17) hx hb dX11_end_12 (by decide) (fun c_2 => ?_) (fun c_2 => ?_)
  · refine lv_aload_n hx hb dX11_end_17 rfl (lv_at hl 0 rfl) ?_
    refine va_get (D := D) (ci := 11) (v := .ref tp) (C := RX11) (T := TX11) (N := 11) hx hb hG inG_X11 hown hE.1 hP 0 rfl rfl 0 (by decide) (hG _ q_f_X11_10) (fun _ h9 => h9) rfl dX11_end_18 ?_
    refine lv_iload_n hx hb dX11_end_21 rfl (lv_at hl 1 rfl) ?_
    refine va_put (D := D) (ci := 10) (v := .int x0) (ty := .int) (C := RX10) (T := TX10) (N := 11) hx hb hG inG_X10 tyX10 tyX10_ok nmX10 hown hE.1 hP hD hS 1 rfl rfl 1 (by decide) (hG _ q_f_X11_87) (fun _ h9 => h9) rfl (by decide +kernel) rfl rfl (Nat.le_of_ble_eq_true rfl) dX11_end_22 (fun H locs hP hD hS => ?_)
    have hP : va_P D vwCl [(h0, .inr (11, [.ref tp, .ref gr, .ref rr, .ref ru, .int 0, .ref nw, .ref im, .ref ac, .ref py, .ref fo, .ref su])), (tp, .inr (10, [.ref tby, .int x0, .ref tki, .ref tva, .ref tpl, .int 0, .int 0, .int 0, .int 0, .int 0, .int 0]))] H := hP
    have hD : va_D A [(h0, .inr (11, [.ref tp, .ref gr, .ref rr, .ref ru, .int 0, .ref nw, .ref im, .ref ac, .ref py, .ref fo, .ref su])), (tp, .inr (10, [.ref tby, .int x0, .ref tki, .ref tva, .ref tpl, .int 0, .int 0, .int 0, .int 0, .int 0, .int 0]))] := hD
    refine lv_iload_n hx hb dX11_end_25 rfl (lv_at hl 1 rfl) ?_
    exact KI.rt () F rfl (hP.sub [] rfl) (hD.sub [] (by decide) rfl) hS (by rw [if_neg (fun q => absurd (er_1.trans (if_pos q)) c_2)]) (Nat.le_of_ble_eq_true rfl) (Nat.le_of_ble_eq_true rfl) dX11_end_26
  · refine lv_iconst (v := (-1)) hx hb dX11_end_15 (by decide) ?_
    exact KI.rt () F rfl (hP.sub [] rfl) (hD.sub [] (by decide) rfl) hS (by rw [if_pos (Classical.byContradiction (fun q => absurd (c_2) (by rw [er_1, if_neg q]; decide)))]) (Nat.le_of_ble_eq_true rfl) (Nat.le_of_ble_eq_true rfl) dX11_end_16

set_option maxHeartbeats 4000000 in
set_option maxRecDepth 100000 in
theorem x_force (l : Launch) (D : va_G) (cy : Nat → ClassId) (h0 tp gr rr ru nw im ac py fo su : Nat) (fd bg nt fc : Nat) (x0 : Int32) : KI l yX11_force cX11_force 3 (some .int) 1 22 D (kTY cy) [.ref h0, .int x0] [(h0, .inr (11, [.ref tp, .ref gr, .ref rr, .ref ru, .int 0, .ref nw, .ref im, .ref ac, .ref py, .ref fo, .ref su])), (nw, .inr (4, [.ref fd, .ref bg, .ref nt, .int (-1), .int 0, .int 0]))] (S := Unit) (fun r _ => r = if x0 < -1 ∨ -1 < x0 then -2 else -1) (fun _ => []) 0 0 := by
  refine KI.of (by decide) (Nat.le_of_ble_eq_true rfl) (fun p e s m below meth c ls A F hE hP hD hA hS hl => ?_)
  have F : kF p s m meth c cX11_force 3 (some .int) _ RX11 := F
  obtain ⟨hx, hb, hr, hml, hown, hG, hlk⟩ := id F
  have hl : lv_has ls 3 [(0, .ref h0), (1, .int x0)] := hl
  refine lv_iload_n hx hb dX11_force_0 rfl (lv_at hl 1 rfl) ?_
  refine lv_iconst (v := (-1)) hx hb dX11_force_1 (by decide) ?_
  refine lv_aload_n hx hb dX11_force_2 rfl (lv_at hl 0 rfl) ?_
  refine va_get (D := D) (ci := 11) (v := .int 0) (C := RX11) (T := TX11) (N := 11) hx hb hG inG_X11 hown hE.1 hP 0 rfl rfl 4 (by decide) (hG _ q_f_X11_36) (fun _ h9 => h9) rfl dX11_force_3 ?_
  refine lv_iconst (v := 1) hx hb dX11_force_6 (by decide) ?_
  refine lv_isub hx hb dX11_force_7 ?_
  refine k_top (z := (-1)) (by decide) ?_
  refine kcS (As := [.int x0, .int (-1), .int (-1)]) (rest := []) F hE hP hl.1 (c_within l D cy (x0 := x0) (x1 := (-1)) (x2 := (-1))) q_m_X11_90 ms_X11_within ⟨(Nat.le_of_ble_eq_true rfl), (Nat.le_of_ble_eq_true rfl)⟩ [] rfl rfl rfl (Nat.le_of_ble_eq_true rfl) ⟨(Nat.le_of_ble_eq_true rfl), (Nat.le_of_ble_eq_true rfl)⟩ dX11_force_8 (fun r_1 er_1 => ?_)
  refine lv_if_ne (tgt := 17) hx hb dX11_force_11 (by decide) (fun c_2 => ?_) (fun c_2 => ?_)
  · refine lv_aload_n hx hb dX11_force_17 rfl (lv_at hl 0 rfl) ?_
    refine va_get (D := D) (ci := 11) (v := .ref nw) (C := RX11) (T := TX11) (N := 11) hx hb hG inG_X11 hown hE.1 hP 0 rfl rfl 5 (by decide) (hG _ q_f_X11_43) (fun _ h9 => h9) rfl dX11_force_18 ?_
    refine va_get (D := D) (ci := 4) (v := .int (-1)) (C := RX4) (T := TX4) (N := 6) hx hb hG inG_X4 hown hE.1 hP 1 rfl rfl 3 (by decide) (hG _ q_f_X11_133) (fun _ h9 => h9) rfl dX11_force_21 ?_
    refine lv_istore_n (lv' := [(2, .int (-1)), (0, .ref h0), (1, .int x0)]) hx hb dX11_force_24 rfl hl (by decide) rfl (fun ls hl => ?_)
    refine lv_aload_n hx hb dX11_force_25 rfl (lv_at hl 1 rfl) ?_
    refine va_get (D := D) (ci := 11) (v := .ref nw) (C := RX11) (T := TX11) (N := 11) hx hb hG inG_X11 hown hE.1 hP 0 rfl rfl 5 (by decide) (hG _ q_f_X11_43) (fun _ h9 => h9) rfl dX11_force_26 ?_
    refine lv_iload_n hx hb dX11_force_29 rfl (lv_at hl 2 rfl) ?_
    refine va_put (D := D) (ci := 4) (v := .int x0) (ty := .int) (C := RX4) (T := TX4) (N := 6) hx hb hG inG_X4 tyX4 tyX4_ok nmX4 hown hE.1 hP hD hS 1 rfl rfl 3 (by decide) (hG _ q_f_X11_133) (fun _ h9 => h9) rfl (by decide +kernel) rfl rfl (Nat.le_of_ble_eq_true rfl) dX11_force_30 (fun H locs hP hD hS => ?_)
    have hP : va_P D vwCl [(h0, .inr (11, [.ref tp, .ref gr, .ref rr, .ref ru, .int 0, .ref nw, .ref im, .ref ac, .ref py, .ref fo, .ref su])), (nw, .inr (4, [.ref fd, .ref bg, .ref nt, .int x0, .int 0, .int 0]))] H := hP
    have hD : va_D A [(h0, .inr (11, [.ref tp, .ref gr, .ref rr, .ref ru, .int 0, .ref nw, .ref im, .ref ac, .ref py, .ref fo, .ref su])), (nw, .inr (4, [.ref fd, .ref bg, .ref nt, .int x0, .int 0, .int 0]))] := hD
    refine lv_iload_n hx hb dX11_force_33 rfl (lv_at hl 0 rfl) ?_
    exact KI.rt () F rfl (hP.sub [] rfl) (hD.sub [] (by decide) rfl) hS (by rw [if_neg (fun q => absurd (er_1.trans (if_pos q)) c_2)]) (Nat.le_of_ble_eq_true rfl) (Nat.le_of_ble_eq_true rfl) dX11_force_34
  · refine lv_bipush (v := (-2)) hx hb dX11_force_14 (by decide) ?_
    exact KI.rt () F rfl (hP.sub [] rfl) (hD.sub [] (by decide) rfl) hS (by rw [if_pos (Classical.byContradiction (fun q => absurd (c_2) (by rw [er_1, if_neg q]; decide)))]) (Nat.le_of_ble_eq_true rfl) (Nat.le_of_ble_eq_true rfl) dX11_force_16

set_option maxHeartbeats 4000000 in
set_option maxRecDepth 100000 in
theorem x_seed (l : Launch) (D : va_G) (cy : Nat → ClassId) (h0 tp gr rr ru nw im ac py fo su : Nat) (fd bg nt fc : Nat) (x0 : Int32) : KI l yX11_seed cX11_seed 3 (some .int) 0 0 D (kTY cy) [.ref h0, .int x0] [(h0, .inr (11, [.ref tp, .ref gr, .ref rr, .ref ru, .int 0, .ref nw, .ref im, .ref ac, .ref py, .ref fo, .ref su])), (nw, .inr (4, [.ref fd, .ref bg, .ref nt, .int (-1), .int 0, .int 0]))] (S := Unit) (fun r _ => r = if x0 < 0 then -1 else 0) (fun _ => []) 0 0 := by
  refine KI.of (by decide) (Nat.le_of_ble_eq_true rfl) (fun p e s m below meth c ls A F hE hP hD hA hS hl => ?_)
  have F : kF p s m meth c cX11_seed 3 (some .int) _ RX11 := F
  obtain ⟨hx, hb, hr, hml, hown, hG, hlk⟩ := id F
  have hl : lv_has ls 3 [(0, .ref h0), (1, .int x0)] := hl
  refine lv_iload_n hx hb dX11_seed_0 rfl (lv_at hl 1 rfl) ?_
  refine lv_if_ge (tgt := 6) hx hb dX11_seed_1 (by decide) (fun c_1 => ?_) (fun c_1 => ?_)
  · refine lv_aload_n hx hb dX11_seed_6 rfl (lv_at hl 0 rfl) ?_
    refine va_get (D := D) (ci := 11) (v := .ref nw) (C := RX11) (T := TX11) (N := 11) hx hb hG inG_X11 hown hE.1 hP 0 rfl rfl 5 (by decide) (hG _ q_f_X11_43) (fun _ h9 => h9) rfl dX11_seed_7 ?_
    refine va_get (D := D) (ci := 4) (v := .int 0) (C := RX4) (T := TX4) (N := 6) hx hb hG inG_X4 hown hE.1 hP 1 rfl rfl 4 (by decide) (hG _ q_f_X11_149) (fun _ h9 => h9) rfl dX11_seed_10 ?_
    refine lv_istore_n (lv' := [(2, .int 0), (0, .ref h0), (1, .int x0)]) hx hb dX11_seed_13 rfl hl (by decide) rfl (fun ls hl => ?_)
    refine lv_aload_n hx hb dX11_seed_14 rfl (lv_at hl 1 rfl) ?_
    refine va_get (D := D) (ci := 11) (v := .ref nw) (C := RX11) (T := TX11) (N := 11) hx hb hG inG_X11 hown hE.1 hP 0 rfl rfl 5 (by decide) (hG _ q_f_X11_43) (fun _ h9 => h9) rfl dX11_seed_15 ?_
    refine lv_iload_n hx hb dX11_seed_18 rfl (lv_at hl 2 rfl) ?_
    refine va_put (D := D) (ci := 4) (v := .int x0) (ty := .int) (C := RX4) (T := TX4) (N := 6) hx hb hG inG_X4 tyX4 tyX4_ok nmX4 hown hE.1 hP hD hS 1 rfl rfl 4 (by decide) (hG _ q_f_X11_149) (fun _ h9 => h9) rfl (by decide +kernel) rfl rfl (Nat.le_of_ble_eq_true rfl) dX11_seed_19 (fun H locs hP hD hS => ?_)
    have hP : va_P D vwCl [(h0, .inr (11, [.ref tp, .ref gr, .ref rr, .ref ru, .int 0, .ref nw, .ref im, .ref ac, .ref py, .ref fo, .ref su])), (nw, .inr (4, [.ref fd, .ref bg, .ref nt, .int (-1), .int x0, .int 0]))] H := hP
    have hD : va_D A [(h0, .inr (11, [.ref tp, .ref gr, .ref rr, .ref ru, .int 0, .ref nw, .ref im, .ref ac, .ref py, .ref fo, .ref su])), (nw, .inr (4, [.ref fd, .ref bg, .ref nt, .int (-1), .int x0, .int 0]))] := hD
    refine lv_iload_n hx hb dX11_seed_22 rfl (lv_at hl 0 rfl) ?_
    exact KI.rt () F rfl (hP.sub [] rfl) (hD.sub [] (by decide) rfl) hS (by first | (rw [if_neg (Int32.not_lt.mpr c_1)]; done) | (rw [if_pos (Int32.not_le.mp c_1)]; done) | (rw [if_pos c_1]; done) | (rw [if_neg c_1]; done)) (Nat.le_of_ble_eq_true rfl) (Nat.le_of_ble_eq_true rfl) dX11_seed_23
  · refine lv_iconst (v := (-1)) hx hb dX11_seed_4 (by decide) ?_
    exact KI.rt () F rfl (hP.sub [] rfl) (hD.sub [] (by decide) rfl) hS (by first | (rw [if_neg (Int32.not_lt.mpr c_1)]; done) | (rw [if_pos (Int32.not_le.mp c_1)]; done) | (rw [if_pos c_1]; done) | (rw [if_neg c_1]; done)) (Nat.le_of_ble_eq_true rfl) (Nat.le_of_ble_eq_true rfl) dX11_seed_5

set_option maxHeartbeats 4000000 in
set_option maxRecDepth 100000 in
theorem x_note (l : Launch) (D : va_G) (cy : Nat → ClassId) (h0 tp gr rr ru nw im ac py fo su : Nat) (fd bg nt fc : Nat) (n1 n2 n3 : Nat) (x0 : Int32) (x1 : Int32) (x2 : Int32) : KI l yX11_note cX11_note 5 (some .int) 2 43 D (kTY cy) [.ref h0, .int x0, .int x1, .int x2] [(h0, .inr (11, [.ref tp, .ref gr, .ref rr, .ref ru, .int 0, .ref nw, .ref im, .ref ac, .ref py, .ref fo, .ref su])), (nw, .inr (4, [.ref fd, .ref bg, .ref nt, .int (-1), .int 0, .int 0])), (fd, .inr (1, [.ref fc])), (fc, .inl (cy 0, 63, .inl (fun _ => 0))), (nt, .inr (5, [.ref n1, .ref n2, .ref n3, .int 0]))] (S := Unit) (fun r _ => r = if x0 = -1 then 0 else -2) (fun _ => []) 0 0 := by
  refine KI.of (by decide) (Nat.le_of_ble_eq_true rfl) (fun p e s m below meth c ls A F hE hP hD hA hS hl => ?_)
  have F : kF p s m meth c cX11_note 5 (some .int) _ RX11 := F
  obtain ⟨hx, hb, hr, hml, hown, hG, hlk⟩ := id F
  have hl : lv_has ls 5 [(0, .ref h0), (1, .int x0), (2, .int x1), (3, .int x2)] := hl
  refine lv_iload_n hx hb dX11_note_0 rfl (lv_at hl 1 rfl) ?_
  refine lv_iconst (v := (-1)) hx hb dX11_note_1 (by decide) ?_
  refine lv_icmp_ne (tgt := 18) hx hb dX11_note_2 (by decide) (fun c_1 => ?_) (fun c_1 => ?_)
  · refine lv_iload_n hx hb dX11_note_18 rfl (lv_at hl 3 rfl) ?_
    refine lv_iconst (v := (-1)) hx hb dX11_note_19 (by decide) ?_
    refine lv_aload_n hx hb dX11_note_20 rfl (lv_at hl 0 rfl) ?_
    refine va_get (D := D) (ci := 11) (v := .ref nw) (C := RX11) (T := TX11) (N := 11) hx hb hG inG_X11 hown hE.1 hP 0 rfl rfl 5 (by decide) (hG _ q_f_X11_43) (fun _ h9 => h9) rfl dX11_note_21 ?_
    refine va_get (D := D) (ci := 4) (v := .ref fd) (C := RX4) (T := TX4) (N := 6) hx hb hG inG_X4 hown hE.1 hP 1 rfl rfl 0 (by decide) (hG _ q_f_X11_111) (fun _ h9 => h9) rfl dX11_note_24 ?_
    refine va_get (D := D) (ci := 1) (v := .ref fc) (C := RX1) (T := TX1) (N := 1) hx hb hG inG_X1 hown hE.1 hP 2 rfl rfl 0 (by decide) (hG _ q_f_X11_124) (fun _ h9 => h9) rfl dX11_note_27 ?_
    refine lv_iconst (v := 0) hx hb dX11_note_30 (by decide) ?_
    refine va_iald hx hb hE.1 hP 3 0 rfl rfl (by unfold vp_in; decide) dX11_note_31 ?_
    refine k_top (z := 0) rfl ?_
    refine lv_iconst (v := 1) hx hb dX11_note_32 (by decide) ?_
    refine lv_isub hx hb dX11_note_33 ?_
    refine k_top (z := (-1)) (by decide) ?_
    refine kcS (As := [.int x2, .int (-1), .int (-1)]) (rest := []) F hE hP hl.1 (c_within l D cy (x0 := x2) (x1 := (-1)) (x2 := (-1))) q_m_X11_90 ms_X11_within ⟨(Nat.le_of_ble_eq_true rfl), (Nat.le_of_ble_eq_true rfl)⟩ [] rfl rfl rfl (Nat.le_of_ble_eq_true rfl) ⟨(Nat.le_of_ble_eq_true rfl), (Nat.le_of_ble_eq_true rfl)⟩ dX11_note_34 (fun r_2 er_2 => ?_)
    refine lv_if_ne (tgt := 46) hx hb dX11_note_37 (by decide) (fun c_3 => ?_) (fun c_3 => ?_)
    · refine lv_iconst (v := 1) hx hb dX11_note_46 (by decide) ?_
      refine lv_goto (tgt := 51) hx hb dX11_note_47 (by decide) ?_
      refine lv_istore (lv' := [(4, .int 1), (0, .ref h0), (1, .int x0), (2, .int x1), (3, .int x2)]) hx hb dX11_note_51 hl (by decide) rfl (fun ls hl => ?_)
      refine lv_iload_n hx hb dX11_note_53 rfl (lv_at hl 2 rfl) ?_
      refine lv_iconst (v := 0) hx hb dX11_note_54 (by decide) ?_
      refine lv_bipush (v := 40) hx hb dX11_note_55 (by decide) ?_
      refine kcS (As := [.int x0, .int 0, .int 40]) (rest := []) F hE hP hl.1 (c_within l D cy (x0 := x0) (x1 := 0) (x2 := 40)) q_m_X11_90 ms_X11_within ⟨(Nat.le_of_ble_eq_true rfl), (Nat.le_of_ble_eq_true rfl)⟩ [] rfl rfl rfl (Nat.le_of_ble_eq_true rfl) ⟨(Nat.le_of_ble_eq_true rfl), (Nat.le_of_ble_eq_true rfl)⟩ dX11_note_57 (fun r_4 er_4 => ?_)
      refine lv_if_eq (tgt := 95) hx hb dX11_note_60 (by decide) (fun c_5 => ?_) (fun c_5 => ?_)
      · refine lv_bipush (v := (-2)) hx hb dX11_note_95 (by decide) ?_
        exact KI.rt () F rfl (hP.sub [] rfl) (hD.sub [] (by decide) rfl) hS (by first | (rw [if_pos c_1]; done) | (rw [if_neg c_1]; done)) (Nat.le_of_ble_eq_true rfl) (Nat.le_of_ble_eq_true rfl) dX11_note_97
      · refine lv_aload_n hx hb dX11_note_63 rfl (lv_at hl 1 rfl) ?_
        refine va_get (D := D) (ci := 11) (v := .ref nw) (C := RX11) (T := TX11) (N := 11) hx hb hG inG_X11 hown hE.1 hP 0 rfl rfl 5 (by decide) (hG _ q_f_X11_43) (fun _ h9 => h9) rfl dX11_note_64 ?_
        refine va_get (D := D) (ci := 4) (v := .ref fd) (C := RX4) (T := TX4) (N := 6) hx hb hG inG_X4 hown hE.1 hP 1 rfl rfl 0 (by decide) (hG _ q_f_X11_111) (fun _ h9 => h9) rfl dX11_note_67 ?_
        refine lv_iload_n hx hb dX11_note_70 rfl (lv_at hl 3 rfl) ?_
        refine kcV (As := [.int x1]) (rest := []) F hE hP hl.1 (c_hasArcher l D cy (fd := fd) (x0 := x1) (fc := fc)) q_m_X11_139 mv_X1_hasArcher ⟨(Nat.le_of_ble_eq_true rfl), (Nat.le_of_ble_eq_true rfl)⟩ [2, 3] rfl rfl rfl rfl rfl rfl (Nat.le_of_ble_eq_true rfl) ⟨(Nat.le_of_ble_eq_true rfl), (Nat.le_of_ble_eq_true rfl)⟩ dX11_note_71 (fun r_6 er_6 => ?_)
        subst er_6
        refine lv_if_eq (tgt := 95) hx hb dX11_note_74 (by decide) (fun _ => ?_) (fun q => absurd q (by decide))
        refine lv_bipush (v := (-2)) hx hb dX11_note_95 (by decide) ?_
        exact KI.rt () F rfl (hP.sub [] rfl) (hD.sub [] (by decide) rfl) hS (by first | (rw [if_pos c_1]; done) | (rw [if_neg c_1]; done)) (Nat.le_of_ble_eq_true rfl) (Nat.le_of_ble_eq_true rfl) dX11_note_97
    · refine lv_iload_n hx hb dX11_note_40 rfl (lv_at hl 3 rfl) ?_
      refine lv_bipush (v := 99) hx hb dX11_note_41 (by decide) ?_
      refine lv_icmp_ne (tgt := 50) hx hb dX11_note_43 (by decide) (fun c_7 => ?_) (fun c_7 => ?_)
      · refine lv_iconst (v := 0) hx hb dX11_note_50 (by decide) ?_
        refine lv_istore (lv' := [(4, .int 0), (0, .ref h0), (1, .int x0), (2, .int x1), (3, .int x2)]) hx hb dX11_note_51 hl (by decide) rfl (fun ls hl => ?_)
        refine lv_iload_n hx hb dX11_note_53 rfl (lv_at hl 2 rfl) ?_
        refine lv_iconst (v := 0) hx hb dX11_note_54 (by decide) ?_
        refine lv_bipush (v := 40) hx hb dX11_note_55 (by decide) ?_
        refine kcS (As := [.int x0, .int 0, .int 40]) (rest := []) F hE hP hl.1 (c_within l D cy (x0 := x0) (x1 := 0) (x2 := 40)) q_m_X11_90 ms_X11_within ⟨(Nat.le_of_ble_eq_true rfl), (Nat.le_of_ble_eq_true rfl)⟩ [] rfl rfl rfl (Nat.le_of_ble_eq_true rfl) ⟨(Nat.le_of_ble_eq_true rfl), (Nat.le_of_ble_eq_true rfl)⟩ dX11_note_57 (fun r_8 er_8 => ?_)
        refine lv_if_eq (tgt := 95) hx hb dX11_note_60 (by decide) (fun c_9 => ?_) (fun c_9 => ?_)
        · refine lv_bipush (v := (-2)) hx hb dX11_note_95 (by decide) ?_
          exact KI.rt () F rfl (hP.sub [] rfl) (hD.sub [] (by decide) rfl) hS (by first | (rw [if_pos c_1]; done) | (rw [if_neg c_1]; done)) (Nat.le_of_ble_eq_true rfl) (Nat.le_of_ble_eq_true rfl) dX11_note_97
        · refine lv_aload_n hx hb dX11_note_63 rfl (lv_at hl 1 rfl) ?_
          refine va_get (D := D) (ci := 11) (v := .ref nw) (C := RX11) (T := TX11) (N := 11) hx hb hG inG_X11 hown hE.1 hP 0 rfl rfl 5 (by decide) (hG _ q_f_X11_43) (fun _ h9 => h9) rfl dX11_note_64 ?_
          refine va_get (D := D) (ci := 4) (v := .ref fd) (C := RX4) (T := TX4) (N := 6) hx hb hG inG_X4 hown hE.1 hP 1 rfl rfl 0 (by decide) (hG _ q_f_X11_111) (fun _ h9 => h9) rfl dX11_note_67 ?_
          refine lv_iload_n hx hb dX11_note_70 rfl (lv_at hl 3 rfl) ?_
          refine kcV (As := [.int x1]) (rest := []) F hE hP hl.1 (c_hasArcher l D cy (fd := fd) (x0 := x1) (fc := fc)) q_m_X11_139 mv_X1_hasArcher ⟨(Nat.le_of_ble_eq_true rfl), (Nat.le_of_ble_eq_true rfl)⟩ [2, 3] rfl rfl rfl rfl rfl rfl (Nat.le_of_ble_eq_true rfl) ⟨(Nat.le_of_ble_eq_true rfl), (Nat.le_of_ble_eq_true rfl)⟩ dX11_note_71 (fun r_10 er_10 => ?_)
          subst er_10
          refine lv_if_eq (tgt := 95) hx hb dX11_note_74 (by decide) (fun _ => ?_) (fun q => absurd q (by decide))
          refine lv_bipush (v := (-2)) hx hb dX11_note_95 (by decide) ?_
          exact KI.rt () F rfl (hP.sub [] rfl) (hD.sub [] (by decide) rfl) hS (by first | (rw [if_pos c_1]; done) | (rw [if_neg c_1]; done)) (Nat.le_of_ble_eq_true rfl) (Nat.le_of_ble_eq_true rfl) dX11_note_97
      · refine lv_iconst (v := 1) hx hb dX11_note_46 (by decide) ?_
        refine lv_goto (tgt := 51) hx hb dX11_note_47 (by decide) ?_
        refine lv_istore (lv' := [(4, .int 1), (0, .ref h0), (1, .int x0), (2, .int x1), (3, .int x2)]) hx hb dX11_note_51 hl (by decide) rfl (fun ls hl => ?_)
        refine lv_iload_n hx hb dX11_note_53 rfl (lv_at hl 2 rfl) ?_
        refine lv_iconst (v := 0) hx hb dX11_note_54 (by decide) ?_
        refine lv_bipush (v := 40) hx hb dX11_note_55 (by decide) ?_
        refine kcS (As := [.int x0, .int 0, .int 40]) (rest := []) F hE hP hl.1 (c_within l D cy (x0 := x0) (x1 := 0) (x2 := 40)) q_m_X11_90 ms_X11_within ⟨(Nat.le_of_ble_eq_true rfl), (Nat.le_of_ble_eq_true rfl)⟩ [] rfl rfl rfl (Nat.le_of_ble_eq_true rfl) ⟨(Nat.le_of_ble_eq_true rfl), (Nat.le_of_ble_eq_true rfl)⟩ dX11_note_57 (fun r_11 er_11 => ?_)
        refine lv_if_eq (tgt := 95) hx hb dX11_note_60 (by decide) (fun c_12 => ?_) (fun c_12 => ?_)
        · refine lv_bipush (v := (-2)) hx hb dX11_note_95 (by decide) ?_
          exact KI.rt () F rfl (hP.sub [] rfl) (hD.sub [] (by decide) rfl) hS (by first | (rw [if_pos c_1]; done) | (rw [if_neg c_1]; done)) (Nat.le_of_ble_eq_true rfl) (Nat.le_of_ble_eq_true rfl) dX11_note_97
        · refine lv_aload_n hx hb dX11_note_63 rfl (lv_at hl 1 rfl) ?_
          refine va_get (D := D) (ci := 11) (v := .ref nw) (C := RX11) (T := TX11) (N := 11) hx hb hG inG_X11 hown hE.1 hP 0 rfl rfl 5 (by decide) (hG _ q_f_X11_43) (fun _ h9 => h9) rfl dX11_note_64 ?_
          refine va_get (D := D) (ci := 4) (v := .ref fd) (C := RX4) (T := TX4) (N := 6) hx hb hG inG_X4 hown hE.1 hP 1 rfl rfl 0 (by decide) (hG _ q_f_X11_111) (fun _ h9 => h9) rfl dX11_note_67 ?_
          refine lv_iload_n hx hb dX11_note_70 rfl (lv_at hl 3 rfl) ?_
          refine kcV (As := [.int x1]) (rest := []) F hE hP hl.1 (c_hasArcher l D cy (fd := fd) (x0 := x1) (fc := fc)) q_m_X11_139 mv_X1_hasArcher ⟨(Nat.le_of_ble_eq_true rfl), (Nat.le_of_ble_eq_true rfl)⟩ [2, 3] rfl rfl rfl rfl rfl rfl (Nat.le_of_ble_eq_true rfl) ⟨(Nat.le_of_ble_eq_true rfl), (Nat.le_of_ble_eq_true rfl)⟩ dX11_note_71 (fun r_13 er_13 => ?_)
          subst er_13
          refine lv_if_eq (tgt := 95) hx hb dX11_note_74 (by decide) (fun _ => ?_) (fun q => absurd q (by decide))
          refine lv_bipush (v := (-2)) hx hb dX11_note_95 (by decide) ?_
          exact KI.rt () F rfl (hP.sub [] rfl) (hD.sub [] (by decide) rfl) hS (by first | (rw [if_pos c_1]; done) | (rw [if_neg c_1]; done)) (Nat.le_of_ble_eq_true rfl) (Nat.le_of_ble_eq_true rfl) dX11_note_97
  · refine lv_aload_n hx hb dX11_note_5 rfl (lv_at hl 0 rfl) ?_
    refine va_get (D := D) (ci := 11) (v := .ref nw) (C := RX11) (T := TX11) (N := 11) hx hb hG inG_X11 hown hE.1 hP 0 rfl rfl 5 (by decide) (hG _ q_f_X11_43) (fun _ h9 => h9) rfl dX11_note_6 ?_
    refine va_get (D := D) (ci := 4) (v := .ref nt) (C := RX4) (T := TX4) (N := 6) hx hb hG inG_X4 hown hE.1 hP 1 rfl rfl 2 (by decide) (hG _ q_f_X11_114) (fun _ h9 => h9) rfl dX11_note_9 ?_
    refine lv_iconst (v := 0) hx hb dX11_note_12 (by decide) ?_
    refine va_put (D := D) (ci := 5) (v := .int 0) (ty := .int) (C := RX5) (T := TX5) (N := 4) hx hb hG inG_X5 tyX5 tyX5_ok nmX5 hown hE.1 hP hD hS 4 rfl rfl 3 (by decide) (hG _ q_f_X11_118) (fun _ h9 => h9) rfl (by decide +kernel) rfl rfl (Nat.le_of_ble_eq_true rfl) dX11_note_13 (fun H locs hP hD hS => ?_)
    have hP : va_P D vwCl [(h0, .inr (11, [.ref tp, .ref gr, .ref rr, .ref ru, .int 0, .ref nw, .ref im, .ref ac, .ref py, .ref fo, .ref su])), (nw, .inr (4, [.ref fd, .ref bg, .ref nt, .int (-1), .int 0, .int 0])), (fd, .inr (1, [.ref fc])), (fc, .inl (cy 0, 63, .inl (fun _ => 0))), (nt, .inr (5, [.ref n1, .ref n2, .ref n3, .int 0]))] H := hP
    have hD : va_D A [(h0, .inr (11, [.ref tp, .ref gr, .ref rr, .ref ru, .int 0, .ref nw, .ref im, .ref ac, .ref py, .ref fo, .ref su])), (nw, .inr (4, [.ref fd, .ref bg, .ref nt, .int (-1), .int 0, .int 0])), (fd, .inr (1, [.ref fc])), (fc, .inl (cy 0, 63, .inl (fun _ => 0))), (nt, .inr (5, [.ref n1, .ref n2, .ref n3, .int 0]))] := hD
    refine lv_iconst (v := 0) hx hb dX11_note_16 (by decide) ?_
    exact KI.rt () F rfl (hP.sub [] rfl) (hD.sub [] (by decide) rfl) hS (by first | (rw [if_pos c_1]; done) | (rw [if_neg c_1]; done)) (Nat.le_of_ble_eq_true rfl) (Nat.le_of_ble_eq_true rfl) dX11_note_17
end
section
set_option maxHeartbeats 4000000 in
set_option maxRecDepth 100000 in
theorem c_addToken (l : Launch) (D : va_G) (cy : Nat → ClassId) (tp tby tki tva tpl : Nat) : KV l yX10_addToken cX10_addToken 4 0 0 D (kTY cy) [.ref tp, .int 0, .int 0, .int 0] [(tp, .inr (10, [.ref tby, .int 0, .ref tki, .ref tva, .ref tpl, .int 0, .int 0, .int 0, .int 0, .int 0, .int 0])), (tki, .inl (cy 0, 401, .inl (fun _ => 0))), (tva, .inl (cy 0, 401, .inl (fun _ => 0))), (tpl, .inl (cy 0, 401, .inl (fun _ => 0)))] (S := Unit) (fun _ => True) (fun _ => [(tp, .inr (10, [.ref tby, .int 0, .ref tki, .ref tva, .ref tpl, .int 1, .int 0, .int 0, .int 0, .int 0, .int 0])), (tki, .inl (cy 0, 401, .inl (fun _ => 0))), (tva, .inl (cy 0, 401, .inl (fun _ => 0))), (tpl, .inl (cy 0, 401, .inl (fun _ => 0)))]) 0 0 := by
  refine KV.of (by decide) (Nat.le_of_ble_eq_true rfl) (fun p e s m below meth c ls A F hin hE hP hD hA hS hl => ?_)
  have F : kF p s m meth c cX10_addToken 4 none _ RX10 := F
  obtain ⟨hx, hb, hr, hml, hown, hG, hlk⟩ := id F
  have hl : lv_has ls 4 [(0, .ref tp), (1, .int 0), (2, .int 0), (3, .int 0)] := hl
  refine lv_aload_n hx hb dX10_addToken_0 rfl (lv_at hl 0 rfl) ?_
  refine va_get (D := D) (ci := 10) (v := .int 0) (C := RX10) (T := TX10) (N := 11) hx hb hG inG_X10 hown hE.1 hP 0 rfl rfl 5 (by decide) (hG _ q_f_X10_28) (fun _ h9 => h9) rfl dX10_addToken_1 ?_
  refine lv_sipush (v := 400) hx hb dX10_addToken_4 (by decide) ?_
  refine lv_icmp_gt (tgt := 50) hx hb dX10_addToken_7 (by decide) (fun q => absurd q (by decide)) (fun _ => ?_)
  refine lv_aload_n hx hb dX10_addToken_10 rfl (lv_at hl 0 rfl) ?_
  refine va_get (D := D) (ci := 10) (v := .ref tki) (C := RX10) (T := TX10) (N := 11) hx hb hG inG_X10 hown hE.1 hP 0 rfl rfl 2 (by decide) (hG _ q_f_X10_19) (fun _ h9 => h9) rfl dX10_addToken_11 ?_
  refine lv_aload_n hx hb dX10_addToken_14 rfl (lv_at hl 0 rfl) ?_
  refine va_get (D := D) (ci := 10) (v := .int 0) (C := RX10) (T := TX10) (N := 11) hx hb hG inG_X10 hown hE.1 hP 0 rfl rfl 5 (by decide) (hG _ q_f_X10_28) (fun _ h9 => h9) rfl dX10_addToken_15 ?_
  refine lv_iload_n hx hb dX10_addToken_18 rfl (lv_at hl 1 rfl) ?_
  refine va_iast hx hb hE.1 hP hD hS 1 0 rfl rfl (by unfold vp_in; decide) dX10_addToken_19 (fun H locs hP hD hS => ?_)
  rw [k_upd0] at hP hD
  have hP : va_P D vwCl [(tp, .inr (10, [.ref tby, .int 0, .ref tki, .ref tva, .ref tpl, .int 0, .int 0, .int 0, .int 0, .int 0, .int 0])), (tki, .inl (cy 0, 401, .inl (fun _ => 0))), (tva, .inl (cy 0, 401, .inl (fun _ => 0))), (tpl, .inl (cy 0, 401, .inl (fun _ => 0)))] H := hP
  have hD : va_D A [(tp, .inr (10, [.ref tby, .int 0, .ref tki, .ref tva, .ref tpl, .int 0, .int 0, .int 0, .int 0, .int 0, .int 0])), (tki, .inl (cy 0, 401, .inl (fun _ => 0))), (tva, .inl (cy 0, 401, .inl (fun _ => 0))), (tpl, .inl (cy 0, 401, .inl (fun _ => 0)))] := hD
  refine lv_aload_n hx hb dX10_addToken_20 rfl (lv_at hl 0 rfl) ?_
  refine va_get (D := D) (ci := 10) (v := .ref tva) (C := RX10) (T := TX10) (N := 11) hx hb hG inG_X10 hown hE.1 hP 0 rfl rfl 3 (by decide) (hG _ q_f_X10_22) (fun _ h9 => h9) rfl dX10_addToken_21 ?_
  refine lv_aload_n hx hb dX10_addToken_24 rfl (lv_at hl 0 rfl) ?_
  refine va_get (D := D) (ci := 10) (v := .int 0) (C := RX10) (T := TX10) (N := 11) hx hb hG inG_X10 hown hE.1 hP 0 rfl rfl 5 (by decide) (hG _ q_f_X10_28) (fun _ h9 => h9) rfl dX10_addToken_25 ?_
  refine lv_iload_n hx hb dX10_addToken_28 rfl (lv_at hl 2 rfl) ?_
  refine va_iast hx hb hE.1 hP hD hS 2 0 rfl rfl (by unfold vp_in; decide) dX10_addToken_29 (fun H locs hP hD hS => ?_)
  rw [k_upd0] at hP hD
  have hP : va_P D vwCl [(tp, .inr (10, [.ref tby, .int 0, .ref tki, .ref tva, .ref tpl, .int 0, .int 0, .int 0, .int 0, .int 0, .int 0])), (tki, .inl (cy 0, 401, .inl (fun _ => 0))), (tva, .inl (cy 0, 401, .inl (fun _ => 0))), (tpl, .inl (cy 0, 401, .inl (fun _ => 0)))] H := hP
  have hD : va_D A [(tp, .inr (10, [.ref tby, .int 0, .ref tki, .ref tva, .ref tpl, .int 0, .int 0, .int 0, .int 0, .int 0, .int 0])), (tki, .inl (cy 0, 401, .inl (fun _ => 0))), (tva, .inl (cy 0, 401, .inl (fun _ => 0))), (tpl, .inl (cy 0, 401, .inl (fun _ => 0)))] := hD
  refine lv_aload_n hx hb dX10_addToken_30 rfl (lv_at hl 0 rfl) ?_
  refine va_get (D := D) (ci := 10) (v := .ref tpl) (C := RX10) (T := TX10) (N := 11) hx hb hG inG_X10 hown hE.1 hP 0 rfl rfl 4 (by decide) (hG _ q_f_X10_25) (fun _ h9 => h9) rfl dX10_addToken_31 ?_
  refine lv_aload_n hx hb dX10_addToken_34 rfl (lv_at hl 0 rfl) ?_
  refine va_get (D := D) (ci := 10) (v := .int 0) (C := RX10) (T := TX10) (N := 11) hx hb hG inG_X10 hown hE.1 hP 0 rfl rfl 5 (by decide) (hG _ q_f_X10_28) (fun _ h9 => h9) rfl dX10_addToken_35 ?_
  refine lv_iload_n hx hb dX10_addToken_38 rfl (lv_at hl 3 rfl) ?_
  refine va_iast hx hb hE.1 hP hD hS 3 0 rfl rfl (by unfold vp_in; decide) dX10_addToken_39 (fun H locs hP hD hS => ?_)
  rw [k_upd0] at hP hD
  have hP : va_P D vwCl [(tp, .inr (10, [.ref tby, .int 0, .ref tki, .ref tva, .ref tpl, .int 0, .int 0, .int 0, .int 0, .int 0, .int 0])), (tki, .inl (cy 0, 401, .inl (fun _ => 0))), (tva, .inl (cy 0, 401, .inl (fun _ => 0))), (tpl, .inl (cy 0, 401, .inl (fun _ => 0)))] H := hP
  have hD : va_D A [(tp, .inr (10, [.ref tby, .int 0, .ref tki, .ref tva, .ref tpl, .int 0, .int 0, .int 0, .int 0, .int 0, .int 0])), (tki, .inl (cy 0, 401, .inl (fun _ => 0))), (tva, .inl (cy 0, 401, .inl (fun _ => 0))), (tpl, .inl (cy 0, 401, .inl (fun _ => 0)))] := hD
  refine lv_aload_n hx hb dX10_addToken_40 rfl (lv_at hl 0 rfl) ?_
  refine lv_dup hx hb dX10_addToken_41 rfl ?_
  refine va_get (D := D) (ci := 10) (v := .int 0) (C := RX10) (T := TX10) (N := 11) hx hb hG inG_X10 hown hE.1 hP 0 rfl rfl 5 (by decide) (hG _ q_f_X10_28) (fun _ h9 => h9) rfl dX10_addToken_42 ?_
  refine lv_iconst (v := 1) hx hb dX10_addToken_45 (by decide) ?_
  refine lv_iadd hx hb dX10_addToken_46 ?_
  refine k_top (z := 1) (by decide) ?_
  refine va_put (D := D) (ci := 10) (v := .int 1) (ty := .int) (C := RX10) (T := TX10) (N := 11) hx hb hG inG_X10 tyX10 tyX10_ok nmX10 hown hE.1 hP hD hS 0 rfl rfl 5 (by decide) (hG _ q_f_X10_28) (fun _ h9 => h9) rfl (by decide +kernel) rfl rfl (Nat.le_of_ble_eq_true rfl) dX10_addToken_47 (fun H locs hP hD hS => ?_)
  have hP : va_P D vwCl [(tp, .inr (10, [.ref tby, .int 0, .ref tki, .ref tva, .ref tpl, .int 1, .int 0, .int 0, .int 0, .int 0, .int 0])), (tki, .inl (cy 0, 401, .inl (fun _ => 0))), (tva, .inl (cy 0, 401, .inl (fun _ => 0))), (tpl, .inl (cy 0, 401, .inl (fun _ => 0)))] H := hP
  have hD : va_D A [(tp, .inr (10, [.ref tby, .int 0, .ref tki, .ref tva, .ref tpl, .int 1, .int 0, .int 0, .int 0, .int 0, .int 0])), (tki, .inl (cy 0, 401, .inl (fun _ => 0))), (tva, .inl (cy 0, 401, .inl (fun _ => 0))), (tpl, .inl (cy 0, 401, .inl (fun _ => 0)))] := hD
  exact KV.rt () F (hP.sub [0, 1, 2, 3] rfl) (hD.sub [0, 1, 2, 3] (by decide) rfl) hS (trivial) (Nat.le_of_ble_eq_true rfl) (Nat.le_of_ble_eq_true rfl) dX10_addToken_50

set_option maxHeartbeats 4000000 in
set_option maxRecDepth 100000 in
theorem c_advance (l : Launch) (D : va_G) (cy : Nat → ClassId) (tp tby tki tva tpl : Nat) : KV l yX10_advance cX10_advance 1 0 0 D (kTY cy) [.ref tp] [(tp, .inr (10, [.ref tby, .int 0, .ref tki, .ref tva, .ref tpl, .int 1, .int (-1), .int 0, .int 0, .int 0, .int 0])), (tki, .inl (cy 0, 401, .inl (fun _ => 0))), (tva, .inl (cy 0, 401, .inl (fun _ => 0))), (tpl, .inl (cy 0, 401, .inl (fun _ => 0)))] (S := Unit) (fun _ => True) (fun _ => [(tp, .inr (10, [.ref tby, .int 0, .ref tki, .ref tva, .ref tpl, .int 1, .int 0, .int 0, .int 0, .int 0, .int 0])), (tki, .inl (cy 0, 401, .inl (fun _ => 0))), (tva, .inl (cy 0, 401, .inl (fun _ => 0))), (tpl, .inl (cy 0, 401, .inl (fun _ => 0)))]) 0 0 := by
  refine KV.of (by decide) (Nat.le_of_ble_eq_true rfl) (fun p e s m below meth c ls A F hin hE hP hD hA hS hl => ?_)
  have F : kF p s m meth c cX10_advance 1 none _ RX10 := F
  obtain ⟨hx, hb, hr, hml, hown, hG, hlk⟩ := id F
  have hl : lv_has ls 1 [(0, .ref tp)] := hl
  refine lv_aload_n hx hb dX10_advance_0 rfl (lv_at hl 0 rfl) ?_
  refine va_get (D := D) (ci := 10) (v := .int (-1)) (C := RX10) (T := TX10) (N := 11) hx hb hG inG_X10 hown hE.1 hP 0 rfl rfl 6 (by decide) (hG _ q_f_X10_31) (fun _ h9 => h9) rfl dX10_advance_1 ?_
  refine lv_iconst (v := 1) hx hb dX10_advance_4 (by decide) ?_
  refine lv_iadd hx hb dX10_advance_5 ?_
  refine k_top (z := 0) (by decide) ?_
  refine lv_aload_n hx hb dX10_advance_6 rfl (lv_at hl 0 rfl) ?_
  refine va_get (D := D) (ci := 10) (v := .int 1) (C := RX10) (T := TX10) (N := 11) hx hb hG inG_X10 hown hE.1 hP 0 rfl rfl 5 (by decide) (hG _ q_f_X10_28) (fun _ h9 => h9) rfl dX10_advance_7 ?_
  refine lv_icmp_ge (tgt := 62) hx hb dX10_advance_10 (by decide) (fun q => absurd q (by decide)) (fun _ => ?_)
  refine lv_aload_n hx hb dX10_advance_13 rfl (lv_at hl 0 rfl) ?_
  refine lv_dup hx hb dX10_advance_14 rfl ?_
  refine va_get (D := D) (ci := 10) (v := .int (-1)) (C := RX10) (T := TX10) (N := 11) hx hb hG inG_X10 hown hE.1 hP 0 rfl rfl 6 (by decide) (hG _ q_f_X10_31) (fun _ h9 => h9) rfl dX10_advance_15 ?_
  refine lv_iconst (v := 1) hx hb dX10_advance_18 (by decide) ?_
  refine lv_iadd hx hb dX10_advance_19 ?_
  refine k_top (z := 0) (by decide) ?_
  refine va_put (D := D) (ci := 10) (v := .int 0) (ty := .int) (C := RX10) (T := TX10) (N := 11) hx hb hG inG_X10 tyX10 tyX10_ok nmX10 hown hE.1 hP hD hS 0 rfl rfl 6 (by decide) (hG _ q_f_X10_31) (fun _ h9 => h9) rfl (by decide +kernel) rfl rfl (Nat.le_of_ble_eq_true rfl) dX10_advance_20 (fun H locs hP hD hS => ?_)
  have hP : va_P D vwCl [(tp, .inr (10, [.ref tby, .int 0, .ref tki, .ref tva, .ref tpl, .int 1, .int 0, .int 0, .int 0, .int 0, .int 0])), (tki, .inl (cy 0, 401, .inl (fun _ => 0))), (tva, .inl (cy 0, 401, .inl (fun _ => 0))), (tpl, .inl (cy 0, 401, .inl (fun _ => 0)))] H := hP
  have hD : va_D A [(tp, .inr (10, [.ref tby, .int 0, .ref tki, .ref tva, .ref tpl, .int 1, .int 0, .int 0, .int 0, .int 0, .int 0])), (tki, .inl (cy 0, 401, .inl (fun _ => 0))), (tva, .inl (cy 0, 401, .inl (fun _ => 0))), (tpl, .inl (cy 0, 401, .inl (fun _ => 0)))] := hD
  refine lv_aload_n hx hb dX10_advance_23 rfl (lv_at hl 0 rfl) ?_
  refine lv_aload_n hx hb dX10_advance_24 rfl (lv_at hl 0 rfl) ?_
  refine va_get (D := D) (ci := 10) (v := .ref tki) (C := RX10) (T := TX10) (N := 11) hx hb hG inG_X10 hown hE.1 hP 0 rfl rfl 2 (by decide) (hG _ q_f_X10_19) (fun _ h9 => h9) rfl dX10_advance_25 ?_
  refine lv_aload_n hx hb dX10_advance_28 rfl (lv_at hl 0 rfl) ?_
  refine va_get (D := D) (ci := 10) (v := .int 0) (C := RX10) (T := TX10) (N := 11) hx hb hG inG_X10 hown hE.1 hP 0 rfl rfl 6 (by decide) (hG _ q_f_X10_31) (fun _ h9 => h9) rfl dX10_advance_29 ?_
  refine va_iald hx hb hE.1 hP 1 0 rfl rfl (by unfold vp_in; decide) dX10_advance_32 ?_
  refine k_top (z := 0) rfl ?_
  refine va_put (D := D) (ci := 10) (v := .int 0) (ty := .int) (C := RX10) (T := TX10) (N := 11) hx hb hG inG_X10 tyX10 tyX10_ok nmX10 hown hE.1 hP hD hS 0 rfl rfl 7 (by decide) (hG _ q_f_X10_34) (fun _ h9 => h9) rfl (by decide +kernel) rfl rfl (Nat.le_of_ble_eq_true rfl) dX10_advance_33 (fun H locs hP hD hS => ?_)
  have hP : va_P D vwCl [(tp, .inr (10, [.ref tby, .int 0, .ref tki, .ref tva, .ref tpl, .int 1, .int 0, .int 0, .int 0, .int 0, .int 0])), (tki, .inl (cy 0, 401, .inl (fun _ => 0))), (tva, .inl (cy 0, 401, .inl (fun _ => 0))), (tpl, .inl (cy 0, 401, .inl (fun _ => 0)))] H := hP
  have hD : va_D A [(tp, .inr (10, [.ref tby, .int 0, .ref tki, .ref tva, .ref tpl, .int 1, .int 0, .int 0, .int 0, .int 0, .int 0])), (tki, .inl (cy 0, 401, .inl (fun _ => 0))), (tva, .inl (cy 0, 401, .inl (fun _ => 0))), (tpl, .inl (cy 0, 401, .inl (fun _ => 0)))] := hD
  refine lv_aload_n hx hb dX10_advance_36 rfl (lv_at hl 0 rfl) ?_
  refine lv_aload_n hx hb dX10_advance_37 rfl (lv_at hl 0 rfl) ?_
  refine va_get (D := D) (ci := 10) (v := .ref tva) (C := RX10) (T := TX10) (N := 11) hx hb hG inG_X10 hown hE.1 hP 0 rfl rfl 3 (by decide) (hG _ q_f_X10_22) (fun _ h9 => h9) rfl dX10_advance_38 ?_
  refine lv_aload_n hx hb dX10_advance_41 rfl (lv_at hl 0 rfl) ?_
  refine va_get (D := D) (ci := 10) (v := .int 0) (C := RX10) (T := TX10) (N := 11) hx hb hG inG_X10 hown hE.1 hP 0 rfl rfl 6 (by decide) (hG _ q_f_X10_31) (fun _ h9 => h9) rfl dX10_advance_42 ?_
  refine va_iald hx hb hE.1 hP 2 0 rfl rfl (by unfold vp_in; decide) dX10_advance_45 ?_
  refine k_top (z := 0) rfl ?_
  refine va_put (D := D) (ci := 10) (v := .int 0) (ty := .int) (C := RX10) (T := TX10) (N := 11) hx hb hG inG_X10 tyX10 tyX10_ok nmX10 hown hE.1 hP hD hS 0 rfl rfl 8 (by decide) (hG _ q_f_X10_37) (fun _ h9 => h9) rfl (by decide +kernel) rfl rfl (Nat.le_of_ble_eq_true rfl) dX10_advance_46 (fun H locs hP hD hS => ?_)
  have hP : va_P D vwCl [(tp, .inr (10, [.ref tby, .int 0, .ref tki, .ref tva, .ref tpl, .int 1, .int 0, .int 0, .int 0, .int 0, .int 0])), (tki, .inl (cy 0, 401, .inl (fun _ => 0))), (tva, .inl (cy 0, 401, .inl (fun _ => 0))), (tpl, .inl (cy 0, 401, .inl (fun _ => 0)))] H := hP
  have hD : va_D A [(tp, .inr (10, [.ref tby, .int 0, .ref tki, .ref tva, .ref tpl, .int 1, .int 0, .int 0, .int 0, .int 0, .int 0])), (tki, .inl (cy 0, 401, .inl (fun _ => 0))), (tva, .inl (cy 0, 401, .inl (fun _ => 0))), (tpl, .inl (cy 0, 401, .inl (fun _ => 0)))] := hD
  refine lv_aload_n hx hb dX10_advance_49 rfl (lv_at hl 0 rfl) ?_
  refine lv_aload_n hx hb dX10_advance_50 rfl (lv_at hl 0 rfl) ?_
  refine va_get (D := D) (ci := 10) (v := .ref tpl) (C := RX10) (T := TX10) (N := 11) hx hb hG inG_X10 hown hE.1 hP 0 rfl rfl 4 (by decide) (hG _ q_f_X10_25) (fun _ h9 => h9) rfl dX10_advance_51 ?_
  refine lv_aload_n hx hb dX10_advance_54 rfl (lv_at hl 0 rfl) ?_
  refine va_get (D := D) (ci := 10) (v := .int 0) (C := RX10) (T := TX10) (N := 11) hx hb hG inG_X10 hown hE.1 hP 0 rfl rfl 6 (by decide) (hG _ q_f_X10_31) (fun _ h9 => h9) rfl dX10_advance_55 ?_
  refine va_iald hx hb hE.1 hP 3 0 rfl rfl (by unfold vp_in; decide) dX10_advance_58 ?_
  refine k_top (z := 0) rfl ?_
  refine va_put (D := D) (ci := 10) (v := .int 0) (ty := .int) (C := RX10) (T := TX10) (N := 11) hx hb hG inG_X10 tyX10 tyX10_ok nmX10 hown hE.1 hP hD hS 0 rfl rfl 9 (by decide) (hG _ q_f_X10_40) (fun _ h9 => h9) rfl (by decide +kernel) rfl rfl (Nat.le_of_ble_eq_true rfl) dX10_advance_59 (fun H locs hP hD hS => ?_)
  have hP : va_P D vwCl [(tp, .inr (10, [.ref tby, .int 0, .ref tki, .ref tva, .ref tpl, .int 1, .int 0, .int 0, .int 0, .int 0, .int 0])), (tki, .inl (cy 0, 401, .inl (fun _ => 0))), (tva, .inl (cy 0, 401, .inl (fun _ => 0))), (tpl, .inl (cy 0, 401, .inl (fun _ => 0)))] H := hP
  have hD : va_D A [(tp, .inr (10, [.ref tby, .int 0, .ref tki, .ref tva, .ref tpl, .int 1, .int 0, .int 0, .int 0, .int 0, .int 0])), (tki, .inl (cy 0, 401, .inl (fun _ => 0))), (tva, .inl (cy 0, 401, .inl (fun _ => 0))), (tpl, .inl (cy 0, 401, .inl (fun _ => 0)))] := hD
  exact KV.rt () F (hP.sub [0, 1, 2, 3] rfl) (hD.sub [0, 1, 2, 3] (by decide) rfl) hS (trivial) (Nat.le_of_ble_eq_true rfl) (Nat.le_of_ble_eq_true rfl) dX10_advance_62

set_option maxHeartbeats 4000000 in
set_option maxRecDepth 100000 in
theorem c_open (l : Launch) (D : va_G) (cy : Nat → ClassId) (tp tby tki tva tpl : Nat) : KV l yX10_open cX10_open 3 1 23 D (kTY cy) [.ref tp] [(tp, .inr (10, [.ref tby, .int 0, .ref tki, .ref tva, .ref tpl, .int 0, .int 0, .int 0, .int 0, .int 0, .int 0])), (tki, .inl (cy 0, 401, .inl (fun _ => 0))), (tva, .inl (cy 0, 401, .inl (fun _ => 0))), (tpl, .inl (cy 0, 401, .inl (fun _ => 0)))] (S := Unit) (fun _ => True) (fun _ => [(tp, .inr (10, [.ref tby, .int 0, .ref tki, .ref tva, .ref tpl, .int 1, .int 0, .int 0, .int 0, .int 0, .int 0])), (tki, .inl (cy 0, 401, .inl (fun _ => 0))), (tva, .inl (cy 0, 401, .inl (fun _ => 0))), (tpl, .inl (cy 0, 401, .inl (fun _ => 0)))]) 0 0 := by
  refine KV.of (by decide) (Nat.le_of_ble_eq_true rfl) (fun p e s m below meth c ls A F hin hE hP hD hA hS hl => ?_)
  have F : kF p s m meth c cX10_open 3 none _ RX10 := F
  obtain ⟨hx, hb, hr, hml, hown, hG, hlk⟩ := id F
  have hl : lv_has ls 3 [(0, .ref tp)] := hl
  refine lv_aload_n hx hb dX10_open_0 rfl (lv_at hl 0 rfl) ?_
  refine lv_iconst (v := 0) hx hb dX10_open_1 (by decide) ?_
  refine va_put (D := D) (ci := 10) (v := .int 0) (ty := .int) (C := RX10) (T := TX10) (N := 11) hx hb hG inG_X10 tyX10 tyX10_ok nmX10 hown hE.1 hP hD hS 0 rfl rfl 5 (by decide) (hG _ q_f_X10_28) (fun _ h9 => h9) rfl (by decide +kernel) rfl rfl (Nat.le_of_ble_eq_true rfl) dX10_open_2 (fun H locs hP hD hS => ?_)
  have hP : va_P D vwCl [(tp, .inr (10, [.ref tby, .int 0, .ref tki, .ref tva, .ref tpl, .int 0, .int 0, .int 0, .int 0, .int 0, .int 0])), (tki, .inl (cy 0, 401, .inl (fun _ => 0))), (tva, .inl (cy 0, 401, .inl (fun _ => 0))), (tpl, .inl (cy 0, 401, .inl (fun _ => 0)))] H := hP
  have hD : va_D A [(tp, .inr (10, [.ref tby, .int 0, .ref tki, .ref tva, .ref tpl, .int 0, .int 0, .int 0, .int 0, .int 0, .int 0])), (tki, .inl (cy 0, 401, .inl (fun _ => 0))), (tva, .inl (cy 0, 401, .inl (fun _ => 0))), (tpl, .inl (cy 0, 401, .inl (fun _ => 0)))] := hD
  refine lv_iconst (v := 0) hx hb dX10_open_5 (by decide) ?_
  refine lv_istore_n (lv' := [(1, .int 0), (0, .ref tp)]) hx hb dX10_open_6 rfl hl (by decide) rfl (fun ls hl => ?_)
  refine lv_iconst (v := 0) hx hb dX10_open_7 (by decide) ?_
  refine lv_istore_n (lv' := [(2, .int 0), (1, .int 0), (0, .ref tp)]) hx hb dX10_open_8 rfl hl (by decide) rfl (fun ls hl => ?_)
  refine lv_iload_n hx hb dX10_open_9 rfl (lv_at hl 0 rfl) ?_
  refine lv_sipush (v := 400) hx hb dX10_open_10 (by decide) ?_
  refine lv_icmp_ge (tgt := 53) hx hb dX10_open_13 (by decide) (fun q => absurd q (by decide)) (fun _ => ?_)
  refine lv_iload_n hx hb dX10_open_16 rfl (lv_at hl 1 rfl) ?_
  refine lv_aload_n hx hb dX10_open_17 rfl (lv_at hl 2 rfl) ?_
  refine va_get (D := D) (ci := 10) (v := .int 0) (C := RX10) (T := TX10) (N := 11) hx hb hG inG_X10 hown hE.1 hP 0 rfl rfl 1 (by decide) (hG _ q_f_X10_15) (fun _ h9 => h9) rfl dX10_open_18 ?_
  refine lv_icmp_ge (tgt := 53) hx hb dX10_open_21 (by decide) (fun _ => ?_) (fun q => absurd q (by decide))
  refine lv_aload_n hx hb dX10_open_53 rfl (lv_at hl 2 rfl) ?_
  refine lv_iconst (v := 0) hx hb dX10_open_54 (by decide) ?_
  refine lv_iconst (v := 0) hx hb dX10_open_55 (by decide) ?_
  refine lv_aload_n hx hb dX10_open_56 rfl (lv_at hl 2 rfl) ?_
  refine va_get (D := D) (ci := 10) (v := .int 0) (C := RX10) (T := TX10) (N := 11) hx hb hG inG_X10 hown hE.1 hP 0 rfl rfl 1 (by decide) (hG _ q_f_X10_15) (fun _ h9 => h9) rfl dX10_open_57 ?_
  refine kwVV (wr := []) (As := [.int 0, .int 0, .int 0]) (rest := []) F hE hP hD hS hA hl.1 (c_addToken l D cy (tp := tp) (tby := tby) (tki := tki) (tva := tva) (tpl := tpl)) q_m_X10_50 mv_X10_addToken ⟨(Nat.le_of_ble_eq_true rfl), (Nat.le_of_ble_eq_true rfl)⟩ [0, 1, 2, 3] [] (by decide) rfl rfl (by decide) (by decide) rfl rfl rfl rfl rfl (Nat.le_of_ble_eq_true rfl) ⟨(Nat.le_of_ble_eq_true rfl), (Nat.le_of_ble_eq_true rfl)⟩ dX10_open_60 (fun u_1 H locs eu_1 hP hD hS => ?_)
  have hP : va_P D vwCl [(tp, .inr (10, [.ref tby, .int 0, .ref tki, .ref tva, .ref tpl, .int 1, .int 0, .int 0, .int 0, .int 0, .int 0])), (tki, .inl (cy 0, 401, .inl (fun _ => 0))), (tva, .inl (cy 0, 401, .inl (fun _ => 0))), (tpl, .inl (cy 0, 401, .inl (fun _ => 0)))] H := hP
  have hD : va_D A [(tp, .inr (10, [.ref tby, .int 0, .ref tki, .ref tva, .ref tpl, .int 1, .int 0, .int 0, .int 0, .int 0, .int 0])), (tki, .inl (cy 0, 401, .inl (fun _ => 0))), (tva, .inl (cy 0, 401, .inl (fun _ => 0))), (tpl, .inl (cy 0, 401, .inl (fun _ => 0)))] := hD
  refine lv_aload_n hx hb dX10_open_63 rfl (lv_at hl 2 rfl) ?_
  refine lv_iconst (v := 0) hx hb dX10_open_64 (by decide) ?_
  refine va_put (D := D) (ci := 10) (v := .int 0) (ty := .int) (C := RX10) (T := TX10) (N := 11) hx hb hG inG_X10 tyX10 tyX10_ok nmX10 hown hE.1 hP hD hS 0 rfl rfl 10 (by decide) (hG _ q_f_X10_43) (fun _ h9 => h9) rfl (by decide +kernel) rfl rfl (Nat.le_of_ble_eq_true rfl) dX10_open_65 (fun H locs hP hD hS => ?_)
  have hP : va_P D vwCl [(tp, .inr (10, [.ref tby, .int 0, .ref tki, .ref tva, .ref tpl, .int 1, .int 0, .int 0, .int 0, .int 0, .int 0])), (tki, .inl (cy 0, 401, .inl (fun _ => 0))), (tva, .inl (cy 0, 401, .inl (fun _ => 0))), (tpl, .inl (cy 0, 401, .inl (fun _ => 0)))] H := hP
  have hD : va_D A [(tp, .inr (10, [.ref tby, .int 0, .ref tki, .ref tva, .ref tpl, .int 1, .int 0, .int 0, .int 0, .int 0, .int 0])), (tki, .inl (cy 0, 401, .inl (fun _ => 0))), (tva, .inl (cy 0, 401, .inl (fun _ => 0))), (tpl, .inl (cy 0, 401, .inl (fun _ => 0)))] := hD
  refine lv_aload_n hx hb dX10_open_68 rfl (lv_at hl 2 rfl) ?_
  refine lv_iconst (v := (-1)) hx hb dX10_open_69 (by decide) ?_
  refine va_put (D := D) (ci := 10) (v := .int (-1)) (ty := .int) (C := RX10) (T := TX10) (N := 11) hx hb hG inG_X10 tyX10 tyX10_ok nmX10 hown hE.1 hP hD hS 0 rfl rfl 6 (by decide) (hG _ q_f_X10_31) (fun _ h9 => h9) rfl (by decide +kernel) rfl rfl (Nat.le_of_ble_eq_true rfl) dX10_open_70 (fun H locs hP hD hS => ?_)
  have hP : va_P D vwCl [(tp, .inr (10, [.ref tby, .int 0, .ref tki, .ref tva, .ref tpl, .int 1, .int (-1), .int 0, .int 0, .int 0, .int 0])), (tki, .inl (cy 0, 401, .inl (fun _ => 0))), (tva, .inl (cy 0, 401, .inl (fun _ => 0))), (tpl, .inl (cy 0, 401, .inl (fun _ => 0)))] H := hP
  have hD : va_D A [(tp, .inr (10, [.ref tby, .int 0, .ref tki, .ref tva, .ref tpl, .int 1, .int (-1), .int 0, .int 0, .int 0, .int 0])), (tki, .inl (cy 0, 401, .inl (fun _ => 0))), (tva, .inl (cy 0, 401, .inl (fun _ => 0))), (tpl, .inl (cy 0, 401, .inl (fun _ => 0)))] := hD
  refine lv_aload_n hx hb dX10_open_73 rfl (lv_at hl 2 rfl) ?_
  refine kwVV (wr := []) (As := []) (rest := []) F hE hP hD hS hA hl.1 (c_advance l D cy (tp := tp) (tby := tby) (tki := tki) (tva := tva) (tpl := tpl)) q_m_X10_54 mv_X10_advance ⟨(Nat.le_of_ble_eq_true rfl), (Nat.le_of_ble_eq_true rfl)⟩ [0, 1, 2, 3] [] (by decide) rfl rfl (by decide) (by decide) rfl rfl rfl rfl rfl (Nat.le_of_ble_eq_true rfl) ⟨(Nat.le_of_ble_eq_true rfl), (Nat.le_of_ble_eq_true rfl)⟩ dX10_open_74 (fun u_2 H locs eu_2 hP hD hS => ?_)
  have hP : va_P D vwCl [(tp, .inr (10, [.ref tby, .int 0, .ref tki, .ref tva, .ref tpl, .int 1, .int 0, .int 0, .int 0, .int 0, .int 0])), (tki, .inl (cy 0, 401, .inl (fun _ => 0))), (tva, .inl (cy 0, 401, .inl (fun _ => 0))), (tpl, .inl (cy 0, 401, .inl (fun _ => 0)))] H := hP
  have hD : va_D A [(tp, .inr (10, [.ref tby, .int 0, .ref tki, .ref tva, .ref tpl, .int 1, .int 0, .int 0, .int 0, .int 0, .int 0])), (tki, .inl (cy 0, 401, .inl (fun _ => 0))), (tva, .inl (cy 0, 401, .inl (fun _ => 0))), (tpl, .inl (cy 0, 401, .inl (fun _ => 0)))] := hD
  exact KV.rt () F (hP.sub [0, 1, 2, 3] rfl) (hD.sub [0, 1, 2, 3] (by decide) rfl) hS (trivial) (Nat.le_of_ble_eq_true rfl) (Nat.le_of_ble_eq_true rfl) dX10_open_77

set_option maxHeartbeats 4000000 in
set_option maxRecDepth 100000 in
theorem c_failAt (l : Launch) (D : va_G) (cy : Nat → ClassId) (tp tby tki tva tpl : Nat) : KV l yX10_failAt cX10_failAt 3 0 0 D (kTY cy) [.ref tp, .int 0, .int 0] [(tp, .inr (10, [.ref tby, .int 0, .ref tki, .ref tva, .ref tpl, .int 1, .int 0, .int 0, .int 0, .int 0, .int 0]))] (S := Unit) (fun _ => True) (fun _ => [(tp, .inr (10, [.ref tby, .int 0, .ref tki, .ref tva, .ref tpl, .int 1, .int 0, .int 0, .int 0, .int 0, .int 1]))]) 0 0 := by
  refine KV.of (by decide) (Nat.le_of_ble_eq_true rfl) (fun p e s m below meth c ls A F hin hE hP hD hA hS hl => ?_)
  have F : kF p s m meth c cX10_failAt 3 none _ RX10 := F
  obtain ⟨hx, hb, hr, hml, hown, hG, hlk⟩ := id F
  have hl : lv_has ls 3 [(0, .ref tp), (1, .int 0), (2, .int 0)] := hl
  refine lv_aload_n hx hb dX10_failAt_0 rfl (lv_at hl 0 rfl) ?_
  refine va_get (D := D) (ci := 10) (v := .int 0) (C := RX10) (T := TX10) (N := 11) hx hb hG inG_X10 hown hE.1 hP 0 rfl rfl 10 (by decide) (hG _ q_f_X10_43) (fun _ h9 => h9) rfl dX10_failAt_1 ?_
  refine lv_if_ne (tgt := 19) hx hb dX10_failAt_4 (by decide) (fun q => absurd q (by decide)) (fun _ => ?_)
  refine lv_aload_n hx hb dX10_failAt_7 rfl (lv_at hl 0 rfl) ?_
  refine lv_iconst (v := 1) hx hb dX10_failAt_8 (by decide) ?_
  refine lv_bipush (v := 8) hx hb dX10_failAt_9 (by decide) ?_
  refine lv_iload_n hx hb dX10_failAt_11 rfl (lv_at hl 1 rfl) ?_
  refine lv_imul hx hb dX10_failAt_12 ?_
  refine k_top (z := 0) (by decide) ?_
  refine lv_iadd hx hb dX10_failAt_13 ?_
  refine k_top (z := 1) (by decide) ?_
  refine lv_iload_n hx hb dX10_failAt_14 rfl (lv_at hl 2 rfl) ?_
  refine lv_iadd hx hb dX10_failAt_15 ?_
  refine k_top (z := 1) (by decide) ?_
  refine va_put (D := D) (ci := 10) (v := .int 1) (ty := .int) (C := RX10) (T := TX10) (N := 11) hx hb hG inG_X10 tyX10 tyX10_ok nmX10 hown hE.1 hP hD hS 0 rfl rfl 10 (by decide) (hG _ q_f_X10_43) (fun _ h9 => h9) rfl (by decide +kernel) rfl rfl (Nat.le_of_ble_eq_true rfl) dX10_failAt_16 (fun H locs hP hD hS => ?_)
  have hP : va_P D vwCl [(tp, .inr (10, [.ref tby, .int 0, .ref tki, .ref tva, .ref tpl, .int 1, .int 0, .int 0, .int 0, .int 0, .int 1]))] H := hP
  have hD : va_D A [(tp, .inr (10, [.ref tby, .int 0, .ref tki, .ref tva, .ref tpl, .int 1, .int 0, .int 0, .int 0, .int 0, .int 1]))] := hD
  exact KV.rt () F (hP.sub [0] rfl) (hD.sub [0] (by decide) rfl) hS (trivial) (Nat.le_of_ble_eq_true rfl) (Nat.le_of_ble_eq_true rfl) dX10_failAt_19

set_option maxHeartbeats 4000000 in
set_option maxRecDepth 100000 in
theorem c_isSign (l : Launch) (D : va_G) (cy : Nat → ClassId) (tp tby tki tva tpl : Nat) (x0 : Int32) : KP l yX10_isSign cX10_isSign 2 (some .boolean) 0 0 D (kTY cy) [.ref tp, .int x0] [(tp, .inr (10, [.ref tby, .int 0, .ref tki, .ref tva, .ref tpl, .int 1, .int 0, .int 0, .int 0, .int 0, .int 1]))] (fun r => r = 0) := by
  refine KP.of (by decide) (Nat.le_of_ble_eq_true rfl) (fun p e s m below meth c ls F hE hP hl => ?_)
  have F : kF p s m meth c cX10_isSign 2 (some .boolean) _ RX10 := F
  obtain ⟨hx, hb, hr, hml, hown, hG, hlk⟩ := id F
  have hl : lv_has ls 2 [(0, .ref tp), (1, .int x0)] := hl
  refine lv_aload_n hx hb dX10_isSign_0 rfl (lv_at hl 0 rfl) ?_
  refine va_get (D := D) (ci := 10) (v := .int 0) (C := RX10) (T := TX10) (N := 11) hx hb hG inG_X10 hown hE.1 hP 0 rfl rfl 7 (by decide) (hG _ q_f_X10_34) (fun _ h9 => h9) rfl dX10_isSign_1 ?_
  refine lv_iconst (v := 4) hx hb dX10_isSign_4 (by decide) ?_
  refine lv_icmp_ne (tgt := 20) hx hb dX10_isSign_5 (by decide) (fun _ => ?_) (fun q => absurd q (by decide))
  refine lv_iconst (v := 0) hx hb dX10_isSign_20 (by decide) ?_
  exact KP.rt F rfl (rfl) dX10_isSign_21

set_option maxHeartbeats 4000000 in
set_option maxRecDepth 100000 in
theorem c_isWord (l : Launch) (D : va_G) (cy : Nat → ClassId) (tp tby tki tva tpl : Nat) (x0 : Int32) : KP l yX10_isWord cX10_isWord 2 (some .boolean) 0 0 D (kTY cy) [.ref tp, .int x0] [(tp, .inr (10, [.ref tby, .int 0, .ref tki, .ref tva, .ref tpl, .int 1, .int 0, .int 0, .int 0, .int 0, .int 0]))] (fun r => r = 0) := by
  refine KP.of (by decide) (Nat.le_of_ble_eq_true rfl) (fun p e s m below meth c ls F hE hP hl => ?_)
  have F : kF p s m meth c cX10_isWord 2 (some .boolean) _ RX10 := F
  obtain ⟨hx, hb, hr, hml, hown, hG, hlk⟩ := id F
  have hl : lv_has ls 2 [(0, .ref tp), (1, .int x0)] := hl
  refine lv_aload_n hx hb dX10_isWord_0 rfl (lv_at hl 0 rfl) ?_
  refine va_get (D := D) (ci := 10) (v := .int 0) (C := RX10) (T := TX10) (N := 11) hx hb hG inG_X10 hown hE.1 hP 0 rfl rfl 7 (by decide) (hG _ q_f_X10_34) (fun _ h9 => h9) rfl dX10_isWord_1 ?_
  refine lv_iconst (v := 3) hx hb dX10_isWord_4 (by decide) ?_
  refine lv_icmp_ne (tgt := 20) hx hb dX10_isWord_5 (by decide) (fun _ => ?_) (fun q => absurd q (by decide))
  refine lv_iconst (v := 0) hx hb dX10_isWord_20 (by decide) ?_
  exact KP.rt F rfl (rfl) dX10_isWord_21

set_option maxHeartbeats 4000000 in
set_option maxRecDepth 100000 in
theorem c_hasNext (l : Launch) (D : va_G) (cy : Nat → ClassId) (tp tby tki tva tpl : Nat) : KP l yX10_hasNextClause cX10_hasNextClause 2 (some .boolean) 1 21 D (kTY cy) [.ref tp] [(tp, .inr (10, [.ref tby, .int 0, .ref tki, .ref tva, .ref tpl, .int 1, .int 0, .int 0, .int 0, .int 0, .int 1]))] (fun r => r = 0) := by
  refine KP.of (by decide) (Nat.le_of_ble_eq_true rfl) (fun p e s m below meth c ls F hE hP hl => ?_)
  have F : kF p s m meth c cX10_hasNextClause 2 (some .boolean) _ RX10 := F
  obtain ⟨hx, hb, hr, hml, hown, hG, hlk⟩ := id F
  have hl : lv_has ls 2 [(0, .ref tp)] := hl
  refine lv_aload_n hx hb dX10_hasNextClause_0 rfl (lv_at hl 0 rfl) ?_
  refine lv_bipush (v := 59) hx hb dX10_hasNextClause_1 (by decide) ?_
  refine kcV (As := [.int 59]) (rest := []) F hE hP hl.1 (c_isSign l D cy (tp := tp) (x0 := 59) (tby := tby) (tki := tki) (tva := tva) (tpl := tpl)) q_m_X10_57 mv_X10_isSign ⟨(Nat.le_of_ble_eq_true rfl), (Nat.le_of_ble_eq_true rfl)⟩ [0] rfl rfl rfl rfl rfl rfl (Nat.le_of_ble_eq_true rfl) ⟨(Nat.le_of_ble_eq_true rfl), (Nat.le_of_ble_eq_true rfl)⟩ dX10_hasNextClause_3 (fun r_1 er_1 => ?_)
  subst er_1
  refine lv_istore_n (lv' := [(1, .int 0), (0, .ref tp)]) hx hb dX10_hasNextClause_6 rfl hl (by decide) rfl (fun ls hl => ?_)
  refine lv_iload_n hx hb dX10_hasNextClause_7 rfl (lv_at hl 0 rfl) ?_
  refine lv_if_eq (tgt := 18) hx hb dX10_hasNextClause_8 (by decide) (fun _ => ?_) (fun q => absurd q (by decide))
  refine lv_aload_n hx hb dX10_hasNextClause_18 rfl (lv_at hl 1 rfl) ?_
  refine va_get (D := D) (ci := 10) (v := .int 0) (C := RX10) (T := TX10) (N := 11) hx hb hG inG_X10 hown hE.1 hP 0 rfl rfl 7 (by decide) (hG _ q_f_X10_34) (fun _ h9 => h9) rfl dX10_hasNextClause_19 ?_
  refine lv_if_eq (tgt := 34) hx hb dX10_hasNextClause_22 (by decide) (fun _ => ?_) (fun q => absurd q (by decide))
  refine lv_iload_n hx hb dX10_hasNextClause_34 rfl (lv_at hl 0 rfl) ?_
  refine lv_if_eq (tgt := 49) hx hb dX10_hasNextClause_35 (by decide) (fun _ => ?_) (fun q => absurd q (by decide))
  refine lv_iconst (v := 0) hx hb dX10_hasNextClause_49 (by decide) ?_
  exact KP.rt F rfl (rfl) dX10_hasNextClause_50

set_option maxHeartbeats 4000000 in
set_option maxRecDepth 100000 in
/-- Arrays.fill(a, v) -/
theorem c_fill (l : Launch) (D : va_G) (cy : Nat → ClassId) (q n : Nat) (hn : n < 2 ^ 31) (f : Nat → Int32) (v : Int32) : KV l yJ7_fill_53178 cJ7_fill_53178 4 0 0 D (kTY cy) [.ref q, .int v] [(q, .inl (cy 0, n, .inl f))] (S := Nat → Int32) (fun h => ∀ j, j < n → h j = v) (fun h => [(q, .inl (cy 0, n, .inl h))]) 0 0 := by
  refine KV.of (by decide) (Nat.le_of_ble_eq_true rfl) (fun p e s m below meth c ls A F hin hE hP hD hA hS hl => ?_)
  have F : kF p s m meth c cJ7_fill_53178 4 none _ RJ7 := F
  obtain ⟨hx, hb, hr, hml, hown, hG, hlk⟩ := id F
  have hl : lv_has ls 4 [(0, .ref q), (1, .int v)] := hl
  have lp : ∀ (fu k : Nat) (h : Nat → Int32) (H : Heap) (locs : List Loc) (ls : Array Slot), k + fu = n → (∀ j, j < k → h j = v) → va_P D vwCl [(q, .inl (cy 0, n, .inl h))] H → va_D A [(q, .inl (cy 0, n, .inl h))] → va_S A s.heap H locs → lv_has ls 4 [(2, .int (nI k)), (3, .int (nI n)), (0, .ref q), (1, .int v)] → W p l e (kRm 0 0 0 0) s m ([.ref q, .int v] : List Value).toArray below meth c H locs 0 0 (MQ below (va_Qv (fun h : Nat → Int32 => ∀ j, j < n → h j = v) (kBw D A (fun h => [(q, .inl (cy 0, n, .inl h))])) A) ([.ref q, .int v] : List Value).toArray s 0 0 A) (F0 m 5 ls []) := by
    intro fu
    induction fu with
    | zero =>
      intro k h H locs ls hk hv hP hD hS hl
      have e0 : k = n := by omega
      subst e0
      refine lv_iload_n hx hb dJ7_fill_53178_5 rfl (lv_at hl 0 rfl) ?_
      refine lv_iload_n hx hb dJ7_fill_53178_6 rfl (lv_at hl 1 rfl) ?_
      refine lv_icmp_ge (tgt := 20) hx hb dJ7_fill_53178_7 (by decide) (fun _ => ?_) (fun q => absurd (Int32.le_refl _) q)
      exact KV.rt h F hP hD hS hv (Nat.le_refl 0) (Nat.le_refl 0) dJ7_fill_53178_20
    | succ fu ih =>
      intro k h H locs ls hk hv hP hD hS hl
      have hlt : k < n := by omega
      refine lv_iload_n hx hb dJ7_fill_53178_5 rfl (lv_at hl 0 rfl) ?_
      refine lv_iload_n hx hb dJ7_fill_53178_6 rfl (lv_at hl 1 rfl) ?_
      refine lv_icmp_ge (tgt := 20) hx hb dJ7_fill_53178_7 (by decide) (fun q => absurd q (nI_ge hlt hn)) (fun _ => ?_)
      refine lv_aload_n hx hb dJ7_fill_53178_10 rfl (lv_at hl 2 rfl) ?_
      refine lv_iload_n hx hb dJ7_fill_53178_11 rfl (lv_at hl 0 rfl) ?_
      refine lv_iload_n hx hb dJ7_fill_53178_12 rfl (lv_at hl 3 rfl) ?_
      refine va_iast hx hb hE.1 hP hD hS 0 0 rfl rfl (vp_in_nI hlt hn) dJ7_fill_53178_13 (fun H locs hP hD hS => ?_)
      refine lv_iinc (v := nI (k + 1)) (lv' := [(2, .int (nI (k + 1))), (3, .int (nI n)), (0, .ref q), (1, .int v)]) hx hb dJ7_fill_53178_14 hl (k := 0) rfl (nI_1 k) (by decide) rfl (fun ls hl => ?_)
      refine lv_goto (tgt := 5) hx hb dJ7_fill_53178_17 (by decide) ?_
      refine ih (k + 1) (upd h (nI k).toNatClampNeg v) H locs ls (by omega) (fun j hj => ?_) hP hD hS hl
      rw [nI_clamp (by omega)]
      by_cases e1 : j = k
      · subst e1; simp [upd]
      · simp [upd, e1]; exact hv j (by omega)
  refine lv_iconst (v := 0) hx hb dJ7_fill_53178_0 (by decide) ?_
  refine lv_istore_n (lv' := [(2, .int 0), (0, .ref q), (1, .int v)]) hx hb dJ7_fill_53178_1 rfl hl (by decide) rfl (fun ls hl => ?_)
  refine lv_aload_n hx hb dJ7_fill_53178_2 rfl (lv_at hl 1 rfl) ?_
  refine va_alen (v := nI n) hx hb hE.1 hP 0 0 rfl rfl rfl dJ7_fill_53178_3 ?_
  refine lv_istore_n (lv' := [(3, .int (nI n)), (2, .int 0), (0, .ref q), (1, .int v)]) hx hb dJ7_fill_53178_4 rfl hl (by decide) rfl (fun ls hl => ?_)
  exact lp n 0 f s.heap [] ls (by omega) (fun j hj => absurd hj (Nat.not_lt_zero j)) hP hD hS (lv_sub hl [1, 0, 2, 3] rfl)

set_option maxHeartbeats 4000000 in
set_option maxRecDepth 100000 in
theorem c_clear (l : Launch) (D : va_G) (cy : Nat → ClassId) (dr dc : Nat) (f : Nat → Int32) : KV l yX1_clear cX1_clear 1 1 23 D (kTY cy) [.ref dr] [(dr, .inr (1, [.ref dc])), (dc, .inl (cy 0, 63, .inl (f)))] (S := Nat → Int32) (fun h => ∀ j, j < 63 → h j = 0) (fun h => [(dr, .inr (1, [.ref dc])), (dc, .inl (cy 0, 63, .inl (h)))]) 0 0 := by
  refine KV.of (by decide) (Nat.le_of_ble_eq_true rfl) (fun p e s m below meth c ls A F hin hE hP hD hA hS hl => ?_)
  have F : kF p s m meth c cX1_clear 1 none _ RX1 := F
  obtain ⟨hx, hb, hr, hml, hown, hG, hlk⟩ := id F
  have hl : lv_has ls 1 [(0, .ref dr)] := hl
  refine lv_aload_n hx hb dX1_clear_0 rfl (lv_at hl 0 rfl) ?_
  refine va_get (D := D) (ci := 1) (v := .ref dc) (C := RX1) (T := TX1) (N := 1) hx hb hG inG_X1 hown hE.1 hP 0 rfl rfl 0 (by decide) (hG _ q_f_X1_11) (fun _ h9 => h9) rfl dX1_clear_1 ?_
  refine lv_iconst (v := 0) hx hb dX1_clear_4 (by decide) ?_
  refine kwSV (wr := [(dr, .inr (1, [.ref dc]))]) (As := [.ref dc, .int 0]) (rest := []) F hE hP hD hS hA hl.1 (c_fill l D cy (q := dc) (v := 0) (f := f) (n := 63) (hn := (by decide))) q_m_X1_21 ms_J7_fill_53178 ⟨(Nat.le_of_ble_eq_true rfl), (Nat.le_of_ble_eq_true rfl)⟩ [1] [0] (by decide) rfl rfl (by decide) (by decide) rfl rfl (Nat.le_of_ble_eq_true rfl) ⟨(Nat.le_of_ble_eq_true rfl), (Nat.le_of_ble_eq_true rfl)⟩ dX1_clear_5 (fun u_1 H locs eu_1 hP hD hS => ?_)
  have hP : va_P D vwCl [(dr, .inr (1, [.ref dc])), (dc, .inl (cy 0, 63, .inl (u_1)))] H := hP
  have hD : va_D A [(dr, .inr (1, [.ref dc])), (dc, .inl (cy 0, 63, .inl (u_1)))] := hD
  exact KV.rt u_1 F (hP.sub [0, 1] rfl) (hD.sub [0, 1] (by decide) rfl) hS (eu_1) (Nat.le_of_ble_eq_true rfl) (Nat.le_of_ble_eq_true rfl) dX1_clear_8

set_option maxHeartbeats 4000000 in
set_option maxRecDepth 100000 in
theorem c_opensClause (l : Launch) (D : va_G) (cy : Nat → ClassId)  : KP l yX3_opensClause cX3_opensClause 1 (some .boolean) 0 0 D (kTY cy) [.int (-1)] [] (fun r => r = 0) := by
  refine KP.of (by decide) (Nat.le_of_ble_eq_true rfl) (fun p e s m below meth c ls F hE hP hl => ?_)
  have F : kF p s m meth c cX3_opensClause 1 (some .boolean) _ RX3 := F
  obtain ⟨hx, hb, hr, hml, hown, hG, hlk⟩ := id F
  have hl : lv_has ls 1 [(0, .int (-1))] := hl
  refine lv_iload_n hx hb dX3_opensClause_0 rfl (lv_at hl 0 rfl) ?_
  refine lv_bipush (v := 13) hx hb dX3_opensClause_1 (by decide) ?_
  refine lv_icmp_eq (tgt := 21) hx hb dX3_opensClause_3 (by decide) (fun q => absurd q (by decide)) (fun _ => ?_)
  refine lv_iload_n hx hb dX3_opensClause_6 rfl (lv_at hl 0 rfl) ?_
  refine lv_bipush (v := 10) hx hb dX3_opensClause_7 (by decide) ?_
  refine lv_icmp_eq (tgt := 21) hx hb dX3_opensClause_9 (by decide) (fun q => absurd q (by decide)) (fun _ => ?_)
  refine lv_iload_n hx hb dX3_opensClause_12 rfl (lv_at hl 0 rfl) ?_
  refine lv_iconst (v := 1) hx hb dX3_opensClause_13 (by decide) ?_
  refine lv_icmp_eq (tgt := 21) hx hb dX3_opensClause_14 (by decide) (fun q => absurd q (by decide)) (fun _ => ?_)
  refine lv_iload_n hx hb dX3_opensClause_17 rfl (lv_at hl 0 rfl) ?_
  refine lv_if_ne (tgt := 25) hx hb dX3_opensClause_18 (by decide) (fun _ => ?_) (fun q => absurd q (by decide))
  refine lv_iconst (v := 0) hx hb dX3_opensClause_25 (by decide) ?_
  exact KP.rt F rfl (rfl) dX3_opensClause_26

set_option maxHeartbeats 4000000 in
set_option maxRecDepth 100000 in
theorem c_readClauseG (l : Launch) (D : va_G) (cy : Nat → ClassId) (gr dr : Nat) (tp tby tki tva tpl : Nat) : KV l yX3_readClause cX3_readClause 4 1 22 D (kTY cy) [.ref gr, .ref tp, .int 0] [(gr, .inr (3, [.ref dr])), (tp, .inr (10, [.ref tby, .int 0, .ref tki, .ref tva, .ref tpl, .int 1, .int 0, .int 0, .int 0, .int 0, .int 0]))] (S := Unit) (fun _ => True) (fun _ => [(gr, .inr (3, [.ref dr])), (tp, .inr (10, [.ref tby, .int 0, .ref tki, .ref tva, .ref tpl, .int 1, .int 0, .int 0, .int 0, .int 0, .int 1]))]) 0 0 := by
  refine KV.of (by decide) (Nat.le_of_ble_eq_true rfl) (fun p e s m below meth c ls A F hin hE hP hD hA hS hl => ?_)
  have F : kF p s m meth c cX3_readClause 4 none _ RX3 := F
  obtain ⟨hx, hb, hr, hml, hown, hG, hlk⟩ := id F
  have hl : lv_has ls 4 [(0, .ref gr), (1, .ref tp), (2, .int 0)] := hl
  refine lv_aload_n hx hb dX3_readClause_0 rfl (lv_at hl 1 rfl) ?_
  refine va_get (D := D) (ci := 10) (v := .int 0) (C := RX10) (T := TX10) (N := 11) hx hb hG inG_X10 hown hE.1 hP 1 rfl rfl 7 (by decide) (hG _ q_f_X3_41) (fun _ h9 => h9) rfl dX3_readClause_1 ?_
  refine lv_iconst (v := 3) hx hb dX3_readClause_4 (by decide) ?_
  refine lv_icmp_ne (tgt := 15) hx hb dX3_readClause_5 (by decide) (fun _ => ?_) (fun q => absurd q (by decide))
  refine lv_iconst (v := (-1)) hx hb dX3_readClause_15 (by decide) ?_
  refine lv_istore_n (lv' := [(3, .int (-1)), (0, .ref gr), (1, .ref tp), (2, .int 0)]) hx hb dX3_readClause_16 rfl hl (by decide) rfl (fun ls hl => ?_)
  refine lv_iload_n hx hb dX3_readClause_17 rfl (lv_at hl 0 rfl) ?_
  refine kcS (As := [.int (-1)]) (rest := []) F hE hP hl.1 (c_opensClause l D cy ) q_m_X3_47 ms_X3_opensClause ⟨(Nat.le_of_ble_eq_true rfl), (Nat.le_of_ble_eq_true rfl)⟩ [] rfl rfl rfl (Nat.le_of_ble_eq_true rfl) ⟨(Nat.le_of_ble_eq_true rfl), (Nat.le_of_ble_eq_true rfl)⟩ dX3_readClause_18 (fun r_1 er_1 => ?_)
  subst er_1
  refine lv_if_ne (tgt := 36) hx hb dX3_readClause_21 (by decide) (fun q => absurd q (by decide)) (fun _ => ?_)
  refine lv_aload_n hx hb dX3_readClause_24 rfl (lv_at hl 2 rfl) ?_
  refine lv_aload_n hx hb dX3_readClause_25 rfl (lv_at hl 2 rfl) ?_
  refine va_get (D := D) (ci := 10) (v := .int 0) (C := RX10) (T := TX10) (N := 11) hx hb hG inG_X10 hown hE.1 hP 1 rfl rfl 9 (by decide) (hG _ q_f_X3_51) (fun _ h9 => h9) rfl dX3_readClause_26 ?_
  refine lv_iconst (v := 0) hx hb dX3_readClause_29 (by decide) ?_
  refine kwVV (wr := [(gr, .inr (3, [.ref dr]))]) (As := [.int 0, .int 0]) (rest := []) F hE hP hD hS hA hl.1 (c_failAt l D cy (tp := tp) (tby := tby) (tki := tki) (tva := tva) (tpl := tpl)) q_m_X3_54 mv_X10_failAt ⟨(Nat.le_of_ble_eq_true rfl), (Nat.le_of_ble_eq_true rfl)⟩ [1] [0] (by decide) rfl rfl (by decide) (by decide) rfl rfl rfl rfl rfl (Nat.le_of_ble_eq_true rfl) ⟨(Nat.le_of_ble_eq_true rfl), (Nat.le_of_ble_eq_true rfl)⟩ dX3_readClause_30 (fun u_2 H locs eu_2 hP hD hS => ?_)
  have hP : va_P D vwCl [(gr, .inr (3, [.ref dr])), (tp, .inr (10, [.ref tby, .int 0, .ref tki, .ref tva, .ref tpl, .int 1, .int 0, .int 0, .int 0, .int 0, .int 1]))] H := hP
  have hD : va_D A [(gr, .inr (3, [.ref dr])), (tp, .inr (10, [.ref tby, .int 0, .ref tki, .ref tva, .ref tpl, .int 1, .int 0, .int 0, .int 0, .int 0, .int 1]))] := hD
  refine lv_goto (tgt := 95) hx hb dX3_readClause_33 (by decide) ?_
  exact KV.rt () F (hP.sub [0, 1] rfl) (hD.sub [0, 1] (by decide) rfl) hS (trivial) (Nat.le_of_ble_eq_true rfl) (Nat.le_of_ble_eq_true rfl) dX3_readClause_95

set_option maxHeartbeats 4000000 in
set_option maxRecDepth 100000 in
theorem c_readFromG (l : Launch) (D : va_G) (cy : Nat → ClassId) (gr dr dc : Nat) (tp tby tki tva tpl : Nat) (f : Nat → Int32) : KI l yX3_readFrom cX3_readFrom 3 (some .int) 2 45 D (kTY cy) [.ref gr, .ref tp] [(gr, .inr (3, [.ref dr])), (tp, .inr (10, [.ref tby, .int 0, .ref tki, .ref tva, .ref tpl, .int 0, .int 0, .int 0, .int 0, .int 0, .int 0])), (tki, .inl (cy 0, 401, .inl (fun _ => 0))), (tva, .inl (cy 0, 401, .inl (fun _ => 0))), (tpl, .inl (cy 0, 401, .inl (fun _ => 0))), (dr, .inr (1, [.ref dc])), (dc, .inl (cy 0, 63, .inl (f)))] (S := Unit) (fun r _ => r = 1) (fun _ => [(gr, .inr (3, [.ref dr])), (tp, .inr (10, [.ref tby, .int 0, .ref tki, .ref tva, .ref tpl, .int 1, .int 0, .int 0, .int 0, .int 0, .int 1]))]) 0 0 := by
  refine KI.of (by decide) (Nat.le_of_ble_eq_true rfl) (fun p e s m below meth c ls A F hE hP hD hA hS hl => ?_)
  have F : kF p s m meth c cX3_readFrom 3 (some .int) _ RX3 := F
  obtain ⟨hx, hb, hr, hml, hown, hG, hlk⟩ := id F
  have hl : lv_has ls 3 [(0, .ref gr), (1, .ref tp)] := hl
  refine lv_aload_n hx hb dX3_readFrom_0 rfl (lv_at hl 1 rfl) ?_
  refine kwVV (wr := [(gr, .inr (3, [.ref dr])), (dr, .inr (1, [.ref dc])), (dc, .inl (cy 0, 63, .inl (f)))]) (As := []) (rest := []) F hE hP hD hS hA hl.1 (c_open l D cy (tp := tp) (tby := tby) (tki := tki) (tva := tva) (tpl := tpl)) q_m_X3_18 mv_X10_open ⟨(Nat.le_of_ble_eq_true rfl), (Nat.le_of_ble_eq_true rfl)⟩ [1, 2, 3, 4] [0, 5, 6] (by decide) rfl rfl (by decide) (by decide) rfl rfl rfl rfl rfl (Nat.le_of_ble_eq_true rfl) ⟨(Nat.le_of_ble_eq_true rfl), (Nat.le_of_ble_eq_true rfl)⟩ dX3_readFrom_1 (fun u_1 H locs eu_1 hP hD hS => ?_)
  have hP : va_P D vwCl [(gr, .inr (3, [.ref dr])), (dr, .inr (1, [.ref dc])), (dc, .inl (cy 0, 63, .inl (f))), (tp, .inr (10, [.ref tby, .int 0, .ref tki, .ref tva, .ref tpl, .int 1, .int 0, .int 0, .int 0, .int 0, .int 0])), (tki, .inl (cy 0, 401, .inl (fun _ => 0))), (tva, .inl (cy 0, 401, .inl (fun _ => 0))), (tpl, .inl (cy 0, 401, .inl (fun _ => 0)))] H := hP
  have hD : va_D A [(gr, .inr (3, [.ref dr])), (dr, .inr (1, [.ref dc])), (dc, .inl (cy 0, 63, .inl (f))), (tp, .inr (10, [.ref tby, .int 0, .ref tki, .ref tva, .ref tpl, .int 1, .int 0, .int 0, .int 0, .int 0, .int 0])), (tki, .inl (cy 0, 401, .inl (fun _ => 0))), (tva, .inl (cy 0, 401, .inl (fun _ => 0))), (tpl, .inl (cy 0, 401, .inl (fun _ => 0)))] := hD
  refine lv_aload_n hx hb dX3_readFrom_4 rfl (lv_at hl 0 rfl) ?_
  refine va_get (D := D) (ci := 3) (v := .ref dr) (C := RX3) (T := TX3) (N := 1) hx hb hG inG_X3 hown hE.1 hP 0 rfl rfl 0 (by decide) (hG _ q_f_X3_12) (fun _ h9 => h9) rfl dX3_readFrom_5 ?_
  refine kwVV (wr := [(gr, .inr (3, [.ref dr])), (tp, .inr (10, [.ref tby, .int 0, .ref tki, .ref tva, .ref tpl, .int 1, .int 0, .int 0, .int 0, .int 0, .int 0])), (tki, .inl (cy 0, 401, .inl (fun _ => 0))), (tva, .inl (cy 0, 401, .inl (fun _ => 0))), (tpl, .inl (cy 0, 401, .inl (fun _ => 0)))]) (As := []) (rest := []) F hE hP hD hS hA hl.1 (c_clear l D cy (dr := dr) (dc := dc) (f := f)) q_m_X3_23 mv_X1_clear ⟨(Nat.le_of_ble_eq_true rfl), (Nat.le_of_ble_eq_true rfl)⟩ [1, 2] [0, 3, 4, 5, 6] (by decide) rfl rfl (by decide) (by decide) rfl rfl rfl rfl rfl (Nat.le_of_ble_eq_true rfl) ⟨(Nat.le_of_ble_eq_true rfl), (Nat.le_of_ble_eq_true rfl)⟩ dX3_readFrom_8 (fun u_2 H locs eu_2 hP hD hS => ?_)
  have hP : va_P D vwCl [(gr, .inr (3, [.ref dr])), (tp, .inr (10, [.ref tby, .int 0, .ref tki, .ref tva, .ref tpl, .int 1, .int 0, .int 0, .int 0, .int 0, .int 0])), (tki, .inl (cy 0, 401, .inl (fun _ => 0))), (tva, .inl (cy 0, 401, .inl (fun _ => 0))), (tpl, .inl (cy 0, 401, .inl (fun _ => 0))), (dr, .inr (1, [.ref dc])), (dc, .inl (cy 0, 63, .inl (u_2)))] H := hP
  have hD : va_D A [(gr, .inr (3, [.ref dr])), (tp, .inr (10, [.ref tby, .int 0, .ref tki, .ref tva, .ref tpl, .int 1, .int 0, .int 0, .int 0, .int 0, .int 0])), (tki, .inl (cy 0, 401, .inl (fun _ => 0))), (tva, .inl (cy 0, 401, .inl (fun _ => 0))), (tpl, .inl (cy 0, 401, .inl (fun _ => 0))), (dr, .inr (1, [.ref dc])), (dc, .inl (cy 0, 63, .inl (u_2)))] := hD
  refine lv_iconst (v := 0) hx hb dX3_readFrom_11 (by decide) ?_
  refine lv_istore_n (lv' := [(2, .int 0), (0, .ref gr), (1, .ref tp)]) hx hb dX3_readFrom_12 rfl hl (by decide) rfl (fun ls hl => ?_)
  refine lv_aload_n hx hb dX3_readFrom_13 rfl (lv_at hl 1 rfl) ?_
  refine lv_aload_n hx hb dX3_readFrom_14 rfl (lv_at hl 2 rfl) ?_
  refine lv_iload_n hx hb dX3_readFrom_15 rfl (lv_at hl 0 rfl) ?_
  refine kwVV (wr := [(tki, .inl (cy 0, 401, .inl (fun _ => 0))), (tva, .inl (cy 0, 401, .inl (fun _ => 0))), (tpl, .inl (cy 0, 401, .inl (fun _ => 0))), (dr, .inr (1, [.ref dc])), (dc, .inl (cy 0, 63, .inl (u_2)))]) (As := [.ref tp, .int 0]) (rest := []) F hE hP hD hS hA hl.1 (c_readClauseG l D cy (gr := gr) (tp := tp) (dr := dr) (tby := tby) (tki := tki) (tva := tva) (tpl := tpl)) q_m_X3_26 mv_X3_readClause ⟨(Nat.le_of_ble_eq_true rfl), (Nat.le_of_ble_eq_true rfl)⟩ [0, 1] [2, 3, 4, 5, 6] (by decide) rfl rfl (by decide) (by decide) rfl rfl rfl rfl rfl (Nat.le_of_ble_eq_true rfl) ⟨(Nat.le_of_ble_eq_true rfl), (Nat.le_of_ble_eq_true rfl)⟩ dX3_readFrom_16 (fun u_3 H locs eu_3 hP hD hS => ?_)
  have hP : va_P D vwCl [(tki, .inl (cy 0, 401, .inl (fun _ => 0))), (tva, .inl (cy 0, 401, .inl (fun _ => 0))), (tpl, .inl (cy 0, 401, .inl (fun _ => 0))), (dr, .inr (1, [.ref dc])), (dc, .inl (cy 0, 63, .inl (u_2))), (gr, .inr (3, [.ref dr])), (tp, .inr (10, [.ref tby, .int 0, .ref tki, .ref tva, .ref tpl, .int 1, .int 0, .int 0, .int 0, .int 0, .int 1]))] H := hP
  have hD : va_D A [(tki, .inl (cy 0, 401, .inl (fun _ => 0))), (tva, .inl (cy 0, 401, .inl (fun _ => 0))), (tpl, .inl (cy 0, 401, .inl (fun _ => 0))), (dr, .inr (1, [.ref dc])), (dc, .inl (cy 0, 63, .inl (u_2))), (gr, .inr (3, [.ref dr])), (tp, .inr (10, [.ref tby, .int 0, .ref tki, .ref tva, .ref tpl, .int 1, .int 0, .int 0, .int 0, .int 0, .int 1]))] := hD
  refine lv_iinc (v := 1) (lv' := [(2, .int 1), (0, .ref gr), (1, .ref tp)]) hx hb dX3_readFrom_19 hl (k := 0) rfl (by decide) (by decide) rfl (fun ls hl => ?_)
  refine lv_iload_n hx hb dX3_readFrom_22 rfl (lv_at hl 0 rfl) ?_
  refine lv_sipush (v := 400) hx hb dX3_readFrom_23 (by decide) ?_
  refine lv_icmp_gt (tgt := 36) hx hb dX3_readFrom_26 (by decide) (fun q => absurd q (by decide)) (fun _ => ?_)
  refine lv_aload_n hx hb dX3_readFrom_29 rfl (lv_at hl 2 rfl) ?_
  refine kcV (As := []) (rest := []) F hE hP hl.1 (c_hasNext l D cy (tp := tp) (tby := tby) (tki := tki) (tva := tva) (tpl := tpl)) q_m_X3_30 mv_X10_hasNextClause ⟨(Nat.le_of_ble_eq_true rfl), (Nat.le_of_ble_eq_true rfl)⟩ [6] rfl rfl rfl rfl rfl rfl (Nat.le_of_ble_eq_true rfl) ⟨(Nat.le_of_ble_eq_true rfl), (Nat.le_of_ble_eq_true rfl)⟩ dX3_readFrom_30 (fun r_4 er_4 => ?_)
  subst er_4
  refine lv_if_ne (tgt := 13) hx hb dX3_readFrom_33 (by decide) (fun q => absurd q (by decide)) (fun _ => ?_)
  refine lv_aload_n hx hb dX3_readFrom_36 rfl (lv_at hl 2 rfl) ?_
  refine va_get (D := D) (ci := 10) (v := .int 1) (C := RX10) (T := TX10) (N := 11) hx hb hG inG_X10 hown hE.1 hP 6 rfl rfl 10 (by decide) (hG _ q_f_X3_34) (fun _ h9 => h9) rfl dX3_readFrom_37 ?_
  refine lv_if_ne (tgt := 47) hx hb dX3_readFrom_40 (by decide) (fun _ => ?_) (fun q => absurd q (by decide))
  refine lv_aload_n hx hb dX3_readFrom_47 rfl (lv_at hl 2 rfl) ?_
  refine va_get (D := D) (ci := 10) (v := .int 1) (C := RX10) (T := TX10) (N := 11) hx hb hG inG_X10 hown hE.1 hP 6 rfl rfl 10 (by decide) (hG _ q_f_X3_34) (fun _ h9 => h9) rfl dX3_readFrom_48 ?_
  exact KI.rt () F rfl (hP.sub [5, 6] rfl) (hD.sub [5, 6] (by decide) rfl) hS (rfl) (Nat.le_of_ble_eq_true rfl) (Nat.le_of_ble_eq_true rfl) dX3_readFrom_51

set_option maxHeartbeats 4000000 in
set_option maxRecDepth 100000 in
theorem x_green (l : Launch) (D : va_G) (cy : Nat → ClassId) (h0 tp gr rr ru nw im ac py fo su : Nat) (dr dc tby tki tva tpl : Nat) : KI l yX11_green cX11_green 2 (some .int) 3 67 D (kTY cy) [.ref h0] [(h0, .inr (11, [.ref tp, .ref gr, .ref rr, .ref ru, .int 0, .ref nw, .ref im, .ref ac, .ref py, .ref fo, .ref su])), (gr, .inr (3, [.ref dr])), (tp, .inr (10, [.ref tby, .int 0, .ref tki, .ref tva, .ref tpl, .int 0, .int 0, .int 0, .int 0, .int 0, .int 0])), (tki, .inl (cy 0, 401, .inl (fun _ => 0))), (tva, .inl (cy 0, 401, .inl (fun _ => 0))), (tpl, .inl (cy 0, 401, .inl (fun _ => 0))), (dr, .inr (1, [.ref dc])), (dc, .inl (cy 0, 63, .inl (fun _ => 0)))] (S := Unit) (fun r _ => r = -3) (fun _ => []) 0 0 := by
  refine KI.of (by decide) (Nat.le_of_ble_eq_true rfl) (fun p e s m below meth c ls A F hE hP hD hA hS hl => ?_)
  have F : kF p s m meth c cX11_green 2 (some .int) _ RX11 := F
  obtain ⟨hx, hb, hr, hml, hown, hG, hlk⟩ := id F
  have hl : lv_has ls 2 [(0, .ref h0)] := hl
  refine lv_aload_n hx hb dX11_green_0 rfl (lv_at hl 0 rfl) ?_
  refine va_get (D := D) (ci := 11) (v := .ref gr) (C := RX11) (T := TX11) (N := 11) hx hb hG inG_X11 hown hE.1 hP 0 rfl rfl 1 (by decide) (hG _ q_f_X11_19) (fun _ h9 => h9) rfl dX11_green_1 ?_
  refine lv_aload_n hx hb dX11_green_4 rfl (lv_at hl 0 rfl) ?_
  refine va_get (D := D) (ci := 11) (v := .ref tp) (C := RX11) (T := TX11) (N := 11) hx hb hG inG_X11 hown hE.1 hP 0 rfl rfl 0 (by decide) (hG _ q_f_X11_10) (fun _ h9 => h9) rfl dX11_green_5 ?_
  refine kwVI (wr := [(h0, .inr (11, [.ref tp, .ref gr, .ref rr, .ref ru, .int 0, .ref nw, .ref im, .ref ac, .ref py, .ref fo, .ref su]))]) (As := [.ref tp]) (rest := []) F hE hP hD hS hA hl.1 (c_readFromG l D cy (gr := gr) (tp := tp) (dr := dr) (tby := tby) (tki := tki) (tva := tva) (tpl := tpl) (dc := dc) (f := (fun _ => 0))) q_m_X11_94 mv_X3_readFrom ⟨(Nat.le_of_ble_eq_true rfl), (Nat.le_of_ble_eq_true rfl)⟩ [1, 2, 3, 4, 5, 6, 7] [0] (by decide) rfl rfl (by decide) (by decide) rfl rfl rfl rfl rfl (Nat.le_of_ble_eq_true rfl) ⟨(Nat.le_of_ble_eq_true rfl), (Nat.le_of_ble_eq_true rfl)⟩ dX11_green_8 (fun r_2 u_1 H locs eu_1 hP hD hS => ?_)
  obtain rfl := eu_1
  have hP : va_P D vwCl [(h0, .inr (11, [.ref tp, .ref gr, .ref rr, .ref ru, .int 0, .ref nw, .ref im, .ref ac, .ref py, .ref fo, .ref su])), (gr, .inr (3, [.ref dr])), (tp, .inr (10, [.ref tby, .int 0, .ref tki, .ref tva, .ref tpl, .int 1, .int 0, .int 0, .int 0, .int 0, .int 1]))] H := hP
  have hD : va_D A [(h0, .inr (11, [.ref tp, .ref gr, .ref rr, .ref ru, .int 0, .ref nw, .ref im, .ref ac, .ref py, .ref fo, .ref su])), (gr, .inr (3, [.ref dr])), (tp, .inr (10, [.ref tby, .int 0, .ref tki, .ref tva, .ref tpl, .int 1, .int 0, .int 0, .int 0, .int 0, .int 1]))] := hD
  refine lv_istore_n (lv' := [(1, .int 1), (0, .ref h0)]) hx hb dX11_green_11 rfl hl (by decide) rfl (fun ls hl => ?_)
  refine lv_iload_n hx hb dX11_green_12 rfl (lv_at hl 0 rfl) ?_
  refine lv_if_eq (tgt := 21) hx hb dX11_green_13 (by decide) (fun q => absurd q (by decide)) (fun _ => ?_)
  refine lv_bipush (v := (-2)) hx hb dX11_green_16 (by decide) ?_
  refine lv_iload_n hx hb dX11_green_18 rfl (lv_at hl 0 rfl) ?_
  refine lv_isub hx hb dX11_green_19 ?_
  refine k_top (z := (-3)) (by decide) ?_
  exact KI.rt () F rfl (hP.sub [] rfl) (hD.sub [] (by decide) rfl) hS (rfl) (Nat.le_of_ble_eq_true rfl) (Nat.le_of_ble_eq_true rfl) dX11_green_20

set_option maxHeartbeats 4000000 in
set_option maxRecDepth 100000 in
theorem c_readClauseR (l : Launch) (D : va_G) (cy : Nat → ClassId) (rr rs : Nat) (tp tby tki tva tpl : Nat) : KV l yX8_readClause cX8_readClause 3 1 22 D (kTY cy) [.ref rr, .ref tp, .int 0] [(rr, .inr (8, [.ref rs, .int 0, .int 0])), (tp, .inr (10, [.ref tby, .int 0, .ref tki, .ref tva, .ref tpl, .int 1, .int 0, .int 0, .int 0, .int 0, .int 0]))] (S := Unit) (fun _ => True) (fun _ => [(rr, .inr (8, [.ref rs, .int 0, .int 0])), (tp, .inr (10, [.ref tby, .int 0, .ref tki, .ref tva, .ref tpl, .int 1, .int 0, .int 0, .int 0, .int 0, .int 1]))]) 0 0 := by
  refine KV.of (by decide) (Nat.le_of_ble_eq_true rfl) (fun p e s m below meth c ls A F hin hE hP hD hA hS hl => ?_)
  have F : kF p s m meth c cX8_readClause 3 none _ RX8 := F
  obtain ⟨hx, hb, hr, hml, hown, hG, hlk⟩ := id F
  have hl : lv_has ls 3 [(0, .ref rr), (1, .ref tp), (2, .int 0)] := hl
  refine lv_aload_n hx hb dX8_readClause_0 rfl (lv_at hl 1 rfl) ?_
  refine lv_bipush (v := 14) hx hb dX8_readClause_1 (by decide) ?_
  refine kcV (As := [.int 14]) (rest := []) F hE hP hl.1 (c_isWord l D cy (tp := tp) (x0 := 14) (tby := tby) (tki := tki) (tva := tva) (tpl := tpl)) q_m_X8_49 mv_X10_isWord ⟨(Nat.le_of_ble_eq_true rfl), (Nat.le_of_ble_eq_true rfl)⟩ [1] rfl rfl rfl rfl rfl rfl (Nat.le_of_ble_eq_true rfl) ⟨(Nat.le_of_ble_eq_true rfl), (Nat.le_of_ble_eq_true rfl)⟩ dX8_readClause_3 (fun r_1 er_1 => ?_)
  subst er_1
  refine lv_if_ne (tgt := 19) hx hb dX8_readClause_6 (by decide) (fun q => absurd q (by decide)) (fun _ => ?_)
  refine lv_aload_n hx hb dX8_readClause_9 rfl (lv_at hl 1 rfl) ?_
  refine lv_aload_n hx hb dX8_readClause_10 rfl (lv_at hl 1 rfl) ?_
  refine va_get (D := D) (ci := 10) (v := .int 0) (C := RX10) (T := TX10) (N := 11) hx hb hG inG_X10 hown hE.1 hP 1 rfl rfl 9 (by decide) (hG _ q_f_X8_53) (fun _ h9 => h9) rfl dX8_readClause_11 ?_
  refine lv_iconst (v := 0) hx hb dX8_readClause_14 (by decide) ?_
  refine kwVV (wr := [(rr, .inr (8, [.ref rs, .int 0, .int 0]))]) (As := [.int 0, .int 0]) (rest := []) F hE hP hD hS hA hl.1 (c_failAt l D cy (tp := tp) (tby := tby) (tki := tki) (tva := tva) (tpl := tpl)) q_m_X8_56 mv_X10_failAt ⟨(Nat.le_of_ble_eq_true rfl), (Nat.le_of_ble_eq_true rfl)⟩ [1] [0] (by decide) rfl rfl (by decide) (by decide) rfl rfl rfl rfl rfl (Nat.le_of_ble_eq_true rfl) ⟨(Nat.le_of_ble_eq_true rfl), (Nat.le_of_ble_eq_true rfl)⟩ dX8_readClause_15 (fun u_2 H locs eu_2 hP hD hS => ?_)
  have hP : va_P D vwCl [(rr, .inr (8, [.ref rs, .int 0, .int 0])), (tp, .inr (10, [.ref tby, .int 0, .ref tki, .ref tva, .ref tpl, .int 1, .int 0, .int 0, .int 0, .int 0, .int 1]))] H := hP
  have hD : va_D A [(rr, .inr (8, [.ref rs, .int 0, .int 0])), (tp, .inr (10, [.ref tby, .int 0, .ref tki, .ref tva, .ref tpl, .int 1, .int 0, .int 0, .int 0, .int 0, .int 1]))] := hD
  exact KV.rt () F (hP.sub [0, 1] rfl) (hD.sub [0, 1] (by decide) rfl) hS (trivial) (Nat.le_of_ble_eq_true rfl) (Nat.le_of_ble_eq_true rfl) dX8_readClause_18

set_option maxHeartbeats 4000000 in
set_option maxRecDepth 100000 in
theorem c_readFromR (l : Launch) (D : va_G) (cy : Nat → ClassId) (rr rs : Nat) (tp tby tki tva tpl : Nat) : KI l yX8_readFrom cX8_readFrom 3 (some .int) 2 45 D (kTY cy) [.ref rr, .ref tp] [(rr, .inr (8, [.ref rs, .int 0, .int 0])), (tp, .inr (10, [.ref tby, .int 0, .ref tki, .ref tva, .ref tpl, .int 0, .int 0, .int 0, .int 0, .int 0, .int 0])), (tki, .inl (cy 0, 401, .inl (fun _ => 0))), (tva, .inl (cy 0, 401, .inl (fun _ => 0))), (tpl, .inl (cy 0, 401, .inl (fun _ => 0)))] (S := Unit) (fun r _ => r = 1) (fun _ => [(rr, .inr (8, [.ref rs, .int 0, .int 0])), (tp, .inr (10, [.ref tby, .int 0, .ref tki, .ref tva, .ref tpl, .int 1, .int 0, .int 0, .int 0, .int 0, .int 1]))]) 0 0 := by
  refine KI.of (by decide) (Nat.le_of_ble_eq_true rfl) (fun p e s m below meth c ls A F hE hP hD hA hS hl => ?_)
  have F : kF p s m meth c cX8_readFrom 3 (some .int) _ RX8 := F
  obtain ⟨hx, hb, hr, hml, hown, hG, hlk⟩ := id F
  have hl : lv_has ls 3 [(0, .ref rr), (1, .ref tp)] := hl
  refine lv_aload_n hx hb dX8_readFrom_0 rfl (lv_at hl 1 rfl) ?_
  refine kwVV (wr := [(rr, .inr (8, [.ref rs, .int 0, .int 0]))]) (As := []) (rest := []) F hE hP hD hS hA hl.1 (c_open l D cy (tp := tp) (tby := tby) (tki := tki) (tva := tva) (tpl := tpl)) q_m_X8_24 mv_X10_open ⟨(Nat.le_of_ble_eq_true rfl), (Nat.le_of_ble_eq_true rfl)⟩ [1, 2, 3, 4] [0] (by decide) rfl rfl (by decide) (by decide) rfl rfl rfl rfl rfl (Nat.le_of_ble_eq_true rfl) ⟨(Nat.le_of_ble_eq_true rfl), (Nat.le_of_ble_eq_true rfl)⟩ dX8_readFrom_1 (fun u_1 H locs eu_1 hP hD hS => ?_)
  have hP : va_P D vwCl [(rr, .inr (8, [.ref rs, .int 0, .int 0])), (tp, .inr (10, [.ref tby, .int 0, .ref tki, .ref tva, .ref tpl, .int 1, .int 0, .int 0, .int 0, .int 0, .int 0])), (tki, .inl (cy 0, 401, .inl (fun _ => 0))), (tva, .inl (cy 0, 401, .inl (fun _ => 0))), (tpl, .inl (cy 0, 401, .inl (fun _ => 0)))] H := hP
  have hD : va_D A [(rr, .inr (8, [.ref rs, .int 0, .int 0])), (tp, .inr (10, [.ref tby, .int 0, .ref tki, .ref tva, .ref tpl, .int 1, .int 0, .int 0, .int 0, .int 0, .int 0])), (tki, .inl (cy 0, 401, .inl (fun _ => 0))), (tva, .inl (cy 0, 401, .inl (fun _ => 0))), (tpl, .inl (cy 0, 401, .inl (fun _ => 0)))] := hD
  refine lv_aload_n hx hb dX8_readFrom_4 rfl (lv_at hl 0 rfl) ?_
  refine lv_iconst (v := 0) hx hb dX8_readFrom_5 (by decide) ?_
  refine va_put (D := D) (ci := 8) (v := .int 0) (ty := .int) (C := RX8) (T := TX8) (N := 3) hx hb hG inG_X8 tyX8 tyX8_ok nmX8 hown hE.1 hP hD hS 0 rfl rfl 1 (by decide) (hG _ q_f_X8_17) (fun _ h9 => h9) rfl (by decide +kernel) rfl rfl (Nat.le_of_ble_eq_true rfl) dX8_readFrom_6 (fun H locs hP hD hS => ?_)
  have hP : va_P D vwCl [(rr, .inr (8, [.ref rs, .int 0, .int 0])), (tp, .inr (10, [.ref tby, .int 0, .ref tki, .ref tva, .ref tpl, .int 1, .int 0, .int 0, .int 0, .int 0, .int 0])), (tki, .inl (cy 0, 401, .inl (fun _ => 0))), (tva, .inl (cy 0, 401, .inl (fun _ => 0))), (tpl, .inl (cy 0, 401, .inl (fun _ => 0)))] H := hP
  have hD : va_D A [(rr, .inr (8, [.ref rs, .int 0, .int 0])), (tp, .inr (10, [.ref tby, .int 0, .ref tki, .ref tva, .ref tpl, .int 1, .int 0, .int 0, .int 0, .int 0, .int 0])), (tki, .inl (cy 0, 401, .inl (fun _ => 0))), (tva, .inl (cy 0, 401, .inl (fun _ => 0))), (tpl, .inl (cy 0, 401, .inl (fun _ => 0)))] := hD
  refine lv_aload_n hx hb dX8_readFrom_9 rfl (lv_at hl 0 rfl) ?_
  refine lv_iconst (v := 0) hx hb dX8_readFrom_10 (by decide) ?_
  refine va_put (D := D) (ci := 8) (v := .int 0) (ty := .int) (C := RX8) (T := TX8) (N := 3) hx hb hG inG_X8 tyX8 tyX8_ok nmX8 hown hE.1 hP hD hS 0 rfl rfl 2 (by decide) (hG _ q_f_X8_21) (fun _ h9 => h9) rfl (by decide +kernel) rfl rfl (Nat.le_of_ble_eq_true rfl) dX8_readFrom_11 (fun H locs hP hD hS => ?_)
  have hP : va_P D vwCl [(rr, .inr (8, [.ref rs, .int 0, .int 0])), (tp, .inr (10, [.ref tby, .int 0, .ref tki, .ref tva, .ref tpl, .int 1, .int 0, .int 0, .int 0, .int 0, .int 0])), (tki, .inl (cy 0, 401, .inl (fun _ => 0))), (tva, .inl (cy 0, 401, .inl (fun _ => 0))), (tpl, .inl (cy 0, 401, .inl (fun _ => 0)))] H := hP
  have hD : va_D A [(rr, .inr (8, [.ref rs, .int 0, .int 0])), (tp, .inr (10, [.ref tby, .int 0, .ref tki, .ref tva, .ref tpl, .int 1, .int 0, .int 0, .int 0, .int 0, .int 0])), (tki, .inl (cy 0, 401, .inl (fun _ => 0))), (tva, .inl (cy 0, 401, .inl (fun _ => 0))), (tpl, .inl (cy 0, 401, .inl (fun _ => 0)))] := hD
  refine lv_iconst (v := 0) hx hb dX8_readFrom_14 (by decide) ?_
  refine lv_istore_n (lv' := [(2, .int 0), (0, .ref rr), (1, .ref tp)]) hx hb dX8_readFrom_15 rfl hl (by decide) rfl (fun ls hl => ?_)
  refine lv_aload_n hx hb dX8_readFrom_16 rfl (lv_at hl 1 rfl) ?_
  refine lv_aload_n hx hb dX8_readFrom_17 rfl (lv_at hl 2 rfl) ?_
  refine lv_iload_n hx hb dX8_readFrom_18 rfl (lv_at hl 0 rfl) ?_
  refine kwVV (wr := [(tki, .inl (cy 0, 401, .inl (fun _ => 0))), (tva, .inl (cy 0, 401, .inl (fun _ => 0))), (tpl, .inl (cy 0, 401, .inl (fun _ => 0)))]) (As := [.ref tp, .int 0]) (rest := []) F hE hP hD hS hA hl.1 (c_readClauseR l D cy (rr := rr) (tp := tp) (rs := rs) (tby := tby) (tki := tki) (tva := tva) (tpl := tpl)) q_m_X8_27 mv_X8_readClause ⟨(Nat.le_of_ble_eq_true rfl), (Nat.le_of_ble_eq_true rfl)⟩ [0, 1] [2, 3, 4] (by decide) rfl rfl (by decide) (by decide) rfl rfl rfl rfl rfl (Nat.le_of_ble_eq_true rfl) ⟨(Nat.le_of_ble_eq_true rfl), (Nat.le_of_ble_eq_true rfl)⟩ dX8_readFrom_19 (fun u_2 H locs eu_2 hP hD hS => ?_)
  have hP : va_P D vwCl [(tki, .inl (cy 0, 401, .inl (fun _ => 0))), (tva, .inl (cy 0, 401, .inl (fun _ => 0))), (tpl, .inl (cy 0, 401, .inl (fun _ => 0))), (rr, .inr (8, [.ref rs, .int 0, .int 0])), (tp, .inr (10, [.ref tby, .int 0, .ref tki, .ref tva, .ref tpl, .int 1, .int 0, .int 0, .int 0, .int 0, .int 1]))] H := hP
  have hD : va_D A [(tki, .inl (cy 0, 401, .inl (fun _ => 0))), (tva, .inl (cy 0, 401, .inl (fun _ => 0))), (tpl, .inl (cy 0, 401, .inl (fun _ => 0))), (rr, .inr (8, [.ref rs, .int 0, .int 0])), (tp, .inr (10, [.ref tby, .int 0, .ref tki, .ref tva, .ref tpl, .int 1, .int 0, .int 0, .int 0, .int 0, .int 1]))] := hD
  refine lv_iinc (v := 1) (lv' := [(2, .int 1), (0, .ref rr), (1, .ref tp)]) hx hb dX8_readFrom_22 hl (k := 0) rfl (by decide) (by decide) rfl (fun ls hl => ?_)
  refine lv_iload_n hx hb dX8_readFrom_25 rfl (lv_at hl 0 rfl) ?_
  refine lv_sipush (v := 400) hx hb dX8_readFrom_26 (by decide) ?_
  refine lv_icmp_gt (tgt := 39) hx hb dX8_readFrom_29 (by decide) (fun q => absurd q (by decide)) (fun _ => ?_)
  refine lv_aload_n hx hb dX8_readFrom_32 rfl (lv_at hl 2 rfl) ?_
  refine kcV (As := []) (rest := []) F hE hP hl.1 (c_hasNext l D cy (tp := tp) (tby := tby) (tki := tki) (tva := tva) (tpl := tpl)) q_m_X8_31 mv_X10_hasNextClause ⟨(Nat.le_of_ble_eq_true rfl), (Nat.le_of_ble_eq_true rfl)⟩ [4] rfl rfl rfl rfl rfl rfl (Nat.le_of_ble_eq_true rfl) ⟨(Nat.le_of_ble_eq_true rfl), (Nat.le_of_ble_eq_true rfl)⟩ dX8_readFrom_33 (fun r_3 er_3 => ?_)
  subst er_3
  refine lv_if_ne (tgt := 16) hx hb dX8_readFrom_36 (by decide) (fun q => absurd q (by decide)) (fun _ => ?_)
  refine lv_aload_n hx hb dX8_readFrom_39 rfl (lv_at hl 2 rfl) ?_
  refine va_get (D := D) (ci := 10) (v := .int 1) (C := RX10) (T := TX10) (N := 11) hx hb hG inG_X10 hown hE.1 hP 4 rfl rfl 10 (by decide) (hG _ q_f_X8_35) (fun _ h9 => h9) rfl dX8_readFrom_40 ?_
  exact KI.rt () F rfl (hP.sub [3, 4] rfl) (hD.sub [3, 4] (by decide) rfl) hS (rfl) (Nat.le_of_ble_eq_true rfl) (Nat.le_of_ble_eq_true rfl) dX8_readFrom_43

set_option maxHeartbeats 4000000 in
set_option maxRecDepth 100000 in
theorem x_rule (l : Launch) (D : va_G) (cy : Nat → ClassId) (h0 tp gr rr ru nw im ac py fo su : Nat) (rs tby tki tva tpl : Nat) : KI l yX11_rule cX11_rule 2 (some .int) 3 67 D (kTY cy) [.ref h0] [(h0, .inr (11, [.ref tp, .ref gr, .ref rr, .ref ru, .int 0, .ref nw, .ref im, .ref ac, .ref py, .ref fo, .ref su])), (rr, .inr (8, [.ref rs, .int 0, .int 0])), (tp, .inr (10, [.ref tby, .int 0, .ref tki, .ref tva, .ref tpl, .int 0, .int 0, .int 0, .int 0, .int 0, .int 0])), (tki, .inl (cy 0, 401, .inl (fun _ => 0))), (tva, .inl (cy 0, 401, .inl (fun _ => 0))), (tpl, .inl (cy 0, 401, .inl (fun _ => 0)))] (S := Unit) (fun r _ => r = -3) (fun _ => []) 0 0 := by
  refine KI.of (by decide) (Nat.le_of_ble_eq_true rfl) (fun p e s m below meth c ls A F hE hP hD hA hS hl => ?_)
  have F : kF p s m meth c cX11_rule 2 (some .int) _ RX11 := F
  obtain ⟨hx, hb, hr, hml, hown, hG, hlk⟩ := id F
  have hl : lv_has ls 2 [(0, .ref h0)] := hl
  refine lv_aload_n hx hb dX11_rule_0 rfl (lv_at hl 0 rfl) ?_
  refine va_get (D := D) (ci := 11) (v := .int 0) (C := RX11) (T := TX11) (N := 11) hx hb hG inG_X11 hown hE.1 hP 0 rfl rfl 4 (by decide) (hG _ q_f_X11_36) (fun _ h9 => h9) rfl dX11_rule_1 ?_
  refine lv_bipush (v := 6) hx hb dX11_rule_4 (by decide) ?_
  refine lv_icmp_lt (tgt := 11) hx hb dX11_rule_6 (by decide) (fun _ => ?_) (fun q => absurd q (by decide))
  refine lv_aload_n hx hb dX11_rule_11 rfl (lv_at hl 0 rfl) ?_
  refine va_get (D := D) (ci := 11) (v := .ref rr) (C := RX11) (T := TX11) (N := 11) hx hb hG inG_X11 hown hE.1 hP 0 rfl rfl 2 (by decide) (hG _ q_f_X11_26) (fun _ h9 => h9) rfl dX11_rule_12 ?_
  refine lv_aload_n hx hb dX11_rule_15 rfl (lv_at hl 0 rfl) ?_
  refine va_get (D := D) (ci := 11) (v := .ref tp) (C := RX11) (T := TX11) (N := 11) hx hb hG inG_X11 hown hE.1 hP 0 rfl rfl 0 (by decide) (hG _ q_f_X11_10) (fun _ h9 => h9) rfl dX11_rule_16 ?_
  refine kwVI (wr := [(h0, .inr (11, [.ref tp, .ref gr, .ref rr, .ref ru, .int 0, .ref nw, .ref im, .ref ac, .ref py, .ref fo, .ref su]))]) (As := [.ref tp]) (rest := []) F hE hP hD hS hA hl.1 (c_readFromR l D cy (rr := rr) (tp := tp) (rs := rs) (tby := tby) (tki := tki) (tva := tva) (tpl := tpl)) q_m_X11_128 mv_X8_readFrom ⟨(Nat.le_of_ble_eq_true rfl), (Nat.le_of_ble_eq_true rfl)⟩ [1, 2, 3, 4, 5] [0] (by decide) rfl rfl (by decide) (by decide) rfl rfl rfl rfl rfl (Nat.le_of_ble_eq_true rfl) ⟨(Nat.le_of_ble_eq_true rfl), (Nat.le_of_ble_eq_true rfl)⟩ dX11_rule_19 (fun r_2 u_1 H locs eu_1 hP hD hS => ?_)
  obtain rfl := eu_1
  have hP : va_P D vwCl [(h0, .inr (11, [.ref tp, .ref gr, .ref rr, .ref ru, .int 0, .ref nw, .ref im, .ref ac, .ref py, .ref fo, .ref su])), (rr, .inr (8, [.ref rs, .int 0, .int 0])), (tp, .inr (10, [.ref tby, .int 0, .ref tki, .ref tva, .ref tpl, .int 1, .int 0, .int 0, .int 0, .int 0, .int 1]))] H := hP
  have hD : va_D A [(h0, .inr (11, [.ref tp, .ref gr, .ref rr, .ref ru, .int 0, .ref nw, .ref im, .ref ac, .ref py, .ref fo, .ref su])), (rr, .inr (8, [.ref rs, .int 0, .int 0])), (tp, .inr (10, [.ref tby, .int 0, .ref tki, .ref tva, .ref tpl, .int 1, .int 0, .int 0, .int 0, .int 0, .int 1]))] := hD
  refine lv_istore_n (lv' := [(1, .int 1), (0, .ref h0)]) hx hb dX11_rule_22 rfl hl (by decide) rfl (fun ls hl => ?_)
  refine lv_aload_n hx hb dX11_rule_23 rfl (lv_at hl 1 rfl) ?_
  refine va_get (D := D) (ci := 11) (v := .ref tp) (C := RX11) (T := TX11) (N := 11) hx hb hG inG_X11 hown hE.1 hP 0 rfl rfl 0 (by decide) (hG _ q_f_X11_10) (fun _ h9 => h9) rfl dX11_rule_24 ?_
  refine lv_iconst (v := 0) hx hb dX11_rule_27 (by decide) ?_
  refine va_put (D := D) (ci := 10) (v := .int 0) (ty := .int) (C := RX10) (T := TX10) (N := 11) hx hb hG inG_X10 tyX10 tyX10_ok nmX10 hown hE.1 hP hD hS 2 rfl rfl 1 (by decide) (hG _ q_f_X11_87) (fun _ h9 => h9) rfl (by decide +kernel) rfl rfl (Nat.le_of_ble_eq_true rfl) dX11_rule_28 (fun H locs hP hD hS => ?_)
  have hP : va_P D vwCl [(h0, .inr (11, [.ref tp, .ref gr, .ref rr, .ref ru, .int 0, .ref nw, .ref im, .ref ac, .ref py, .ref fo, .ref su])), (rr, .inr (8, [.ref rs, .int 0, .int 0])), (tp, .inr (10, [.ref tby, .int 0, .ref tki, .ref tva, .ref tpl, .int 1, .int 0, .int 0, .int 0, .int 0, .int 1]))] H := hP
  have hD : va_D A [(h0, .inr (11, [.ref tp, .ref gr, .ref rr, .ref ru, .int 0, .ref nw, .ref im, .ref ac, .ref py, .ref fo, .ref su])), (rr, .inr (8, [.ref rs, .int 0, .int 0])), (tp, .inr (10, [.ref tby, .int 0, .ref tki, .ref tva, .ref tpl, .int 1, .int 0, .int 0, .int 0, .int 0, .int 1]))] := hD
  refine lv_iload_n hx hb dX11_rule_31 rfl (lv_at hl 0 rfl) ?_
  refine lv_if_eq (tgt := 40) hx hb dX11_rule_32 (by decide) (fun q => absurd q (by decide)) (fun _ => ?_)
  refine lv_bipush (v := (-2)) hx hb dX11_rule_35 (by decide) ?_
  refine lv_iload_n hx hb dX11_rule_37 rfl (lv_at hl 0 rfl) ?_
  refine lv_isub hx hb dX11_rule_38 ?_
  refine k_top (z := (-3)) (by decide) ?_
  exact KI.rt () F rfl (hP.sub [] rfl) (hD.sub [] (by decide) rfl) hS (rfl) (Nat.le_of_ble_eq_true rfl) (Nat.le_of_ble_eq_true rfl) dX11_rule_39
end
section
set_option maxHeartbeats 4000000 in
set_option maxRecDepth 100000 in
theorem x_imageOut (l : Launch) (D : va_G) (cy : Nat → ClassId) (h0 tp gr rr ru nw im ac py fo su : Nat) (x0 : Int32) (hk : x0 < 0 ∨ 3 < x0) : KP l yX11_image cX11_image 2 (some .int) 1 22 D (kTY cy) [.ref h0, .int x0] [(h0, .inr (11, [.ref tp, .ref gr, .ref rr, .ref ru, .int 0, .ref nw, .ref im, .ref ac, .ref py, .ref fo, .ref su]))] (fun r => r = -1) := by
  refine KP.of (by decide) (Nat.le_of_ble_eq_true rfl) (fun p e s m below meth c ls F hE hP hl => ?_)
  have F : kF p s m meth c cX11_image 2 (some .int) _ RX11 := F
  obtain ⟨hx, hb, hr, hml, hown, hG, hlk⟩ := id F
  have hl : lv_has ls 2 [(0, .ref h0), (1, .int x0)] := hl
  refine lv_iload_n hx hb dX11_image_0 rfl (lv_at hl 1 rfl) ?_
  refine lv_iconst (v := 0) hx hb dX11_image_1 (by decide) ?_
  refine lv_iconst (v := 3) hx hb dX11_image_2 (by decide) ?_
  refine kcS (As := [.int x0, .int 0, .int 3]) (rest := []) F hE hP hl.1 (c_within l D cy (x0 := x0) (x1 := 0) (x2 := 3)) q_m_X11_90 ms_X11_within ⟨(Nat.le_of_ble_eq_true rfl), (Nat.le_of_ble_eq_true rfl)⟩ [] rfl rfl rfl (Nat.le_of_ble_eq_true rfl) ⟨(Nat.le_of_ble_eq_true rfl), (Nat.le_of_ble_eq_true rfl)⟩ dX11_image_3 (fun r_1 er_1 => ?_)
  obtain rfl : r_1 = 0 := er_1.trans (if_pos hk)
  refine lv_if_ne (tgt := 11) hx hb dX11_image_6 (by decide) (fun q => absurd q (by decide)) (fun _ => ?_)
  refine lv_iconst (v := (-1)) hx hb dX11_image_9 (by decide) ?_
  exact KP.rt F rfl (rfl) dX11_image_10

set_option maxHeartbeats 4000000 in
set_option maxRecDepth 100000 in
theorem c_copyField (l : Launch) (D : va_G) (cy : Nat → ClassId) (qa qb qc qd : Nat) (fa fb : Nat → Int32) : KV l yX1_copyFrom cX1_copyFrom 2 1 40 D (kTY cy) [.ref qa, .ref qc] [(qa, .inr (1, [.ref qb])), (qb, .inl (cy 0, 63, .inl (fa))), (qc, .inr (1, [.ref qd])), (qd, .inl (cy 0, 63, .inl (fb)))] (S := Nat → Int32) (fun _ => True) (fun h => [(qa, .inr (1, [.ref qb])), (qb, .inl (cy 0, 63, .inl (h))), (qc, .inr (1, [.ref qd])), (qd, .inl (cy 0, 63, .inl (fb)))]) 0 0 := by
  refine KV.of (by decide) (Nat.le_of_ble_eq_true rfl) (fun p e s m below meth c ls A F hin hE hP hD hA hS hl => ?_)
  have F : kF p s m meth c cX1_copyFrom 2 none _ RX1 := F
  obtain ⟨hx, hb, hr, hml, hown, hG, hlk⟩ := id F
  have hl : lv_has ls 2 [(0, .ref qa), (1, .ref qc)] := hl
  refine lv_aload_n hx hb dX1_copyFrom_0 rfl (lv_at hl 1 rfl) ?_
  refine va_get (D := D) (ci := 1) (v := .ref qd) (C := RX1) (T := TX1) (N := 1) hx hb hG inG_X1 hown hE.1 hP 2 rfl rfl 0 (by decide) (hG _ q_f_X1_11) (fun _ h9 => h9) rfl dX1_copyFrom_1 ?_
  refine lv_iconst (v := 0) hx hb dX1_copyFrom_4 (by decide) ?_
  refine lv_aload_n hx hb dX1_copyFrom_5 rfl (lv_at hl 0 rfl) ?_
  refine va_get (D := D) (ci := 1) (v := .ref qb) (C := RX1) (T := TX1) (N := 1) hx hb hG inG_X1 hown hE.1 hP 0 rfl rfl 0 (by decide) (hG _ q_f_X1_11) (fun _ h9 => h9) rfl dX1_copyFrom_6 ?_
  refine lv_iconst (v := 0) hx hb dX1_copyFrom_9 (by decide) ?_
  refine lv_bipush (v := 63) hx hb dX1_copyFrom_10 (by decide) ?_
  refine va_copyi (ty := .int) hx hb (by rw [hml]; exact hl.1.symm) hown (hG _ q_m_X1_15) (hG _ q_n_arraycopyName) (hG _ q_s_arraycopyName) (hG _ q_z_java_lang_System) hE.1 hP hD hS 3 1 0 0 rfl rfl rfl rfl rfl (by decide) (by decide) (by decide) (Nat.le_of_ble_eq_true rfl) (Nat.le_of_ble_eq_true rfl) (fun _ _ => rfl) (Nat.le_of_ble_eq_true rfl) (Nat.le_of_ble_eq_true rfl) dX1_copyFrom_12 (fun H locs hP hD hS => ?_)
  generalize va_cpy (fb) (fa) (Int32.toNatClampNeg 0) (Int32.toNatClampNeg 0) (Int32.toNatClampNeg 63) = fn_1 at hP hD
  have hP : va_P D vwCl [(qa, .inr (1, [.ref qb])), (qb, .inl (cy 0, 63, .inl (fn_1))), (qc, .inr (1, [.ref qd])), (qd, .inl (cy 0, 63, .inl (fb)))] H := hP
  have hD : va_D A [(qa, .inr (1, [.ref qb])), (qb, .inl (cy 0, 63, .inl (fn_1))), (qc, .inr (1, [.ref qd])), (qd, .inl (cy 0, 63, .inl (fb)))] := hD
  exact KV.rt fn_1 F (hP.sub [0, 1, 2, 3] rfl) (hD.sub [0, 1, 2, 3] (by decide) rfl) hS (trivial) (Nat.le_of_ble_eq_true rfl) (Nat.le_of_ble_eq_true rfl) dX1_copyFrom_15

set_option maxHeartbeats 4000000 in
set_option maxRecDepth 100000 in
theorem c_copyNotes (l : Launch) (D : va_G) (cy : Nat → ClassId) (na na1 na2 na3 nb nb1 nb2 nb3 : Nat) (fa1 fa2 fa3 fb1 fb2 fb3 : Nat → Int32) : KV l yX5_copyFrom cX5_copyFrom 2 1 40 D (kTY cy) [.ref na, .ref nb] [(na, .inr (5, [.ref na1, .ref na2, .ref na3, .int 0])), (na1, .inl (cy 0, 10, .inl (fa1))), (na2, .inl (cy 0, 10, .inl (fa2))), (na3, .inl (cy 0, 10, .inl (fa3))), (nb, .inr (5, [.ref nb1, .ref nb2, .ref nb3, .int 0])), (nb1, .inl (cy 0, 10, .inl (fb1))), (nb2, .inl (cy 0, 10, .inl (fb2))), (nb3, .inl (cy 0, 10, .inl (fb3)))] (S := Unit) (fun _ => True) (fun _ => []) 0 0 := by
  refine KV.of (by decide) (Nat.le_of_ble_eq_true rfl) (fun p e s m below meth c ls A F hin hE hP hD hA hS hl => ?_)
  have F : kF p s m meth c cX5_copyFrom 2 none _ RX5 := F
  obtain ⟨hx, hb, hr, hml, hown, hG, hlk⟩ := id F
  have hl : lv_has ls 2 [(0, .ref na), (1, .ref nb)] := hl
  refine lv_aload_n hx hb dX5_copyFrom_0 rfl (lv_at hl 1 rfl) ?_
  refine va_get (D := D) (ci := 5) (v := .ref nb1) (C := RX5) (T := TX5) (N := 4) hx hb hG inG_X5 hown hE.1 hP 4 rfl rfl 0 (by decide) (hG _ q_f_X5_11) (fun _ h9 => h9) rfl dX5_copyFrom_1 ?_
  refine lv_iconst (v := 0) hx hb dX5_copyFrom_4 (by decide) ?_
  refine lv_aload_n hx hb dX5_copyFrom_5 rfl (lv_at hl 0 rfl) ?_
  refine va_get (D := D) (ci := 5) (v := .ref na1) (C := RX5) (T := TX5) (N := 4) hx hb hG inG_X5 hown hE.1 hP 0 rfl rfl 0 (by decide) (hG _ q_f_X5_11) (fun _ h9 => h9) rfl dX5_copyFrom_6 ?_
  refine lv_iconst (v := 0) hx hb dX5_copyFrom_9 (by decide) ?_
  refine lv_bipush (v := 10) hx hb dX5_copyFrom_10 (by decide) ?_
  refine va_copyi (ty := .int) hx hb (by rw [hml]; exact hl.1.symm) hown (hG _ q_m_X5_25) (hG _ q_n_arraycopyName) (hG _ q_s_arraycopyName) (hG _ q_z_java_lang_System) hE.1 hP hD hS 5 1 0 0 rfl rfl rfl rfl rfl (by decide) (by decide) (by decide) (Nat.le_of_ble_eq_true rfl) (Nat.le_of_ble_eq_true rfl) (fun _ _ => rfl) (Nat.le_of_ble_eq_true rfl) (Nat.le_of_ble_eq_true rfl) dX5_copyFrom_12 (fun H locs hP hD hS => ?_)
  generalize va_cpy (fb1) (fa1) (Int32.toNatClampNeg 0) (Int32.toNatClampNeg 0) (Int32.toNatClampNeg 10) = fn_1 at hP hD
  have hP : va_P D vwCl [(na, .inr (5, [.ref na1, .ref na2, .ref na3, .int 0])), (na1, .inl (cy 0, 10, .inl (fn_1))), (na2, .inl (cy 0, 10, .inl (fa2))), (na3, .inl (cy 0, 10, .inl (fa3))), (nb, .inr (5, [.ref nb1, .ref nb2, .ref nb3, .int 0])), (nb1, .inl (cy 0, 10, .inl (fb1))), (nb2, .inl (cy 0, 10, .inl (fb2))), (nb3, .inl (cy 0, 10, .inl (fb3)))] H := hP
  have hD : va_D A [(na, .inr (5, [.ref na1, .ref na2, .ref na3, .int 0])), (na1, .inl (cy 0, 10, .inl (fn_1))), (na2, .inl (cy 0, 10, .inl (fa2))), (na3, .inl (cy 0, 10, .inl (fa3))), (nb, .inr (5, [.ref nb1, .ref nb2, .ref nb3, .int 0])), (nb1, .inl (cy 0, 10, .inl (fb1))), (nb2, .inl (cy 0, 10, .inl (fb2))), (nb3, .inl (cy 0, 10, .inl (fb3)))] := hD
  refine lv_aload_n hx hb dX5_copyFrom_15 rfl (lv_at hl 1 rfl) ?_
  refine va_get (D := D) (ci := 5) (v := .ref nb2) (C := RX5) (T := TX5) (N := 4) hx hb hG inG_X5 hown hE.1 hP 4 rfl rfl 1 (by decide) (hG _ q_f_X5_15) (fun _ h9 => h9) rfl dX5_copyFrom_16 ?_
  refine lv_iconst (v := 0) hx hb dX5_copyFrom_19 (by decide) ?_
  refine lv_aload_n hx hb dX5_copyFrom_20 rfl (lv_at hl 0 rfl) ?_
  refine va_get (D := D) (ci := 5) (v := .ref na2) (C := RX5) (T := TX5) (N := 4) hx hb hG inG_X5 hown hE.1 hP 0 rfl rfl 1 (by decide) (hG _ q_f_X5_15) (fun _ h9 => h9) rfl dX5_copyFrom_21 ?_
  refine lv_iconst (v := 0) hx hb dX5_copyFrom_24 (by decide) ?_
  refine lv_bipush (v := 10) hx hb dX5_copyFrom_25 (by decide) ?_
  refine va_copyi (ty := .int) hx hb (by rw [hml]; exact hl.1.symm) hown (hG _ q_m_X5_25) (hG _ q_n_arraycopyName) (hG _ q_s_arraycopyName) (hG _ q_z_java_lang_System) hE.1 hP hD hS 6 2 0 0 rfl rfl rfl rfl rfl (by decide) (by decide) (by decide) (Nat.le_of_ble_eq_true rfl) (Nat.le_of_ble_eq_true rfl) (fun _ _ => rfl) (Nat.le_of_ble_eq_true rfl) (Nat.le_of_ble_eq_true rfl) dX5_copyFrom_27 (fun H locs hP hD hS => ?_)
  generalize va_cpy (fb2) (fa2) (Int32.toNatClampNeg 0) (Int32.toNatClampNeg 0) (Int32.toNatClampNeg 10) = fn_2 at hP hD
  have hP : va_P D vwCl [(na, .inr (5, [.ref na1, .ref na2, .ref na3, .int 0])), (na1, .inl (cy 0, 10, .inl (fn_1))), (na2, .inl (cy 0, 10, .inl (fn_2))), (na3, .inl (cy 0, 10, .inl (fa3))), (nb, .inr (5, [.ref nb1, .ref nb2, .ref nb3, .int 0])), (nb1, .inl (cy 0, 10, .inl (fb1))), (nb2, .inl (cy 0, 10, .inl (fb2))), (nb3, .inl (cy 0, 10, .inl (fb3)))] H := hP
  have hD : va_D A [(na, .inr (5, [.ref na1, .ref na2, .ref na3, .int 0])), (na1, .inl (cy 0, 10, .inl (fn_1))), (na2, .inl (cy 0, 10, .inl (fn_2))), (na3, .inl (cy 0, 10, .inl (fa3))), (nb, .inr (5, [.ref nb1, .ref nb2, .ref nb3, .int 0])), (nb1, .inl (cy 0, 10, .inl (fb1))), (nb2, .inl (cy 0, 10, .inl (fb2))), (nb3, .inl (cy 0, 10, .inl (fb3)))] := hD
  refine lv_aload_n hx hb dX5_copyFrom_30 rfl (lv_at hl 1 rfl) ?_
  refine va_get (D := D) (ci := 5) (v := .ref nb3) (C := RX5) (T := TX5) (N := 4) hx hb hG inG_X5 hown hE.1 hP 4 rfl rfl 2 (by decide) (hG _ q_f_X5_18) (fun _ h9 => h9) rfl dX5_copyFrom_31 ?_
  refine lv_iconst (v := 0) hx hb dX5_copyFrom_34 (by decide) ?_
  refine lv_aload_n hx hb dX5_copyFrom_35 rfl (lv_at hl 0 rfl) ?_
  refine va_get (D := D) (ci := 5) (v := .ref na3) (C := RX5) (T := TX5) (N := 4) hx hb hG inG_X5 hown hE.1 hP 0 rfl rfl 2 (by decide) (hG _ q_f_X5_18) (fun _ h9 => h9) rfl dX5_copyFrom_36 ?_
  refine lv_iconst (v := 0) hx hb dX5_copyFrom_39 (by decide) ?_
  refine lv_bipush (v := 10) hx hb dX5_copyFrom_40 (by decide) ?_
  refine va_copyi (ty := .int) hx hb (by rw [hml]; exact hl.1.symm) hown (hG _ q_m_X5_25) (hG _ q_n_arraycopyName) (hG _ q_s_arraycopyName) (hG _ q_z_java_lang_System) hE.1 hP hD hS 7 3 0 0 rfl rfl rfl rfl rfl (by decide) (by decide) (by decide) (Nat.le_of_ble_eq_true rfl) (Nat.le_of_ble_eq_true rfl) (fun _ _ => rfl) (Nat.le_of_ble_eq_true rfl) (Nat.le_of_ble_eq_true rfl) dX5_copyFrom_42 (fun H locs hP hD hS => ?_)
  generalize va_cpy (fb3) (fa3) (Int32.toNatClampNeg 0) (Int32.toNatClampNeg 0) (Int32.toNatClampNeg 10) = fn_3 at hP hD
  have hP : va_P D vwCl [(na, .inr (5, [.ref na1, .ref na2, .ref na3, .int 0])), (na1, .inl (cy 0, 10, .inl (fn_1))), (na2, .inl (cy 0, 10, .inl (fn_2))), (na3, .inl (cy 0, 10, .inl (fn_3))), (nb, .inr (5, [.ref nb1, .ref nb2, .ref nb3, .int 0])), (nb1, .inl (cy 0, 10, .inl (fb1))), (nb2, .inl (cy 0, 10, .inl (fb2))), (nb3, .inl (cy 0, 10, .inl (fb3)))] H := hP
  have hD : va_D A [(na, .inr (5, [.ref na1, .ref na2, .ref na3, .int 0])), (na1, .inl (cy 0, 10, .inl (fn_1))), (na2, .inl (cy 0, 10, .inl (fn_2))), (na3, .inl (cy 0, 10, .inl (fn_3))), (nb, .inr (5, [.ref nb1, .ref nb2, .ref nb3, .int 0])), (nb1, .inl (cy 0, 10, .inl (fb1))), (nb2, .inl (cy 0, 10, .inl (fb2))), (nb3, .inl (cy 0, 10, .inl (fb3)))] := hD
  refine lv_aload_n hx hb dX5_copyFrom_45 rfl (lv_at hl 0 rfl) ?_
  refine lv_aload_n hx hb dX5_copyFrom_46 rfl (lv_at hl 1 rfl) ?_
  refine va_get (D := D) (ci := 5) (v := .int 0) (C := RX5) (T := TX5) (N := 4) hx hb hG inG_X5 hown hE.1 hP 4 rfl rfl 3 (by decide) (hG _ q_f_X5_21) (fun _ h9 => h9) rfl dX5_copyFrom_47 ?_
  refine va_put (D := D) (ci := 5) (v := .int 0) (ty := .int) (C := RX5) (T := TX5) (N := 4) hx hb hG inG_X5 tyX5 tyX5_ok nmX5 hown hE.1 hP hD hS 0 rfl rfl 3 (by decide) (hG _ q_f_X5_21) (fun _ h9 => h9) rfl (by decide +kernel) rfl rfl (Nat.le_of_ble_eq_true rfl) dX5_copyFrom_50 (fun H locs hP hD hS => ?_)
  have hP : va_P D vwCl [(na, .inr (5, [.ref na1, .ref na2, .ref na3, .int 0])), (na1, .inl (cy 0, 10, .inl (fn_1))), (na2, .inl (cy 0, 10, .inl (fn_2))), (na3, .inl (cy 0, 10, .inl (fn_3))), (nb, .inr (5, [.ref nb1, .ref nb2, .ref nb3, .int 0])), (nb1, .inl (cy 0, 10, .inl (fb1))), (nb2, .inl (cy 0, 10, .inl (fb2))), (nb3, .inl (cy 0, 10, .inl (fb3)))] H := hP
  have hD : va_D A [(na, .inr (5, [.ref na1, .ref na2, .ref na3, .int 0])), (na1, .inl (cy 0, 10, .inl (fn_1))), (na2, .inl (cy 0, 10, .inl (fn_2))), (na3, .inl (cy 0, 10, .inl (fn_3))), (nb, .inr (5, [.ref nb1, .ref nb2, .ref nb3, .int 0])), (nb1, .inl (cy 0, 10, .inl (fb1))), (nb2, .inl (cy 0, 10, .inl (fb2))), (nb3, .inl (cy 0, 10, .inl (fb3)))] := hD
  exact KV.rt () F (hP.sub [] rfl) (hD.sub [] (by decide) rfl) hS (trivial) (Nat.le_of_ble_eq_true rfl) (Nat.le_of_ble_eq_true rfl) dX5_copyFrom_53

set_option maxHeartbeats 4000000 in
set_option maxRecDepth 100000 in
theorem c_copyMoment (l : Launch) (D : va_G) (cy : Nat → ClassId) (nw : Nat) (fd bg nt fc : Nat) (ik fk bk tk fkc bkc tk1 tk2 tk3 bc nt1 nt2 nt3 : Nat) : KV l yX4_copyFrom cX4_copyFrom 2 2 61 D (kTY cy) [.ref ik, .ref nw] [(ik, .inr (4, [.ref fk, .ref bk, .ref tk, .int (-1), .int 0, .int 0])), (nw, .inr (4, [.ref fd, .ref bg, .ref nt, .int (-1), .int 0, .int 0])), (fk, .inr (1, [.ref fkc])), (fkc, .inl (cy 0, 63, .inl (fun _ => 0))), (fd, .inr (1, [.ref fc])), (fc, .inl (cy 0, 63, .inl (fun _ => 0))), (bk, .inr (1, [.ref bkc])), (bkc, .inl (cy 0, 63, .inl (fun _ => 0))), (bg, .inr (1, [.ref bc])), (bc, .inl (cy 0, 63, .inl (fun _ => 0))), (tk, .inr (5, [.ref tk1, .ref tk2, .ref tk3, .int 0])), (tk1, .inl (cy 0, 10, .inl (fun _ => 0))), (tk2, .inl (cy 0, 10, .inl (fun _ => 0))), (tk3, .inl (cy 0, 10, .inl (fun _ => 0))), (nt, .inr (5, [.ref nt1, .ref nt2, .ref nt3, .int 0])), (nt1, .inl (cy 0, 10, .inl (fun _ => 0))), (nt2, .inl (cy 0, 10, .inl (fun _ => 0))), (nt3, .inl (cy 0, 10, .inl (fun _ => 0)))] (S := Unit) (fun _ => True) (fun _ => [(ik, .inr (4, [.ref fk, .ref bk, .ref tk, .int (-1), .int 0, .int 0])), (nw, .inr (4, [.ref fd, .ref bg, .ref nt, .int (-1), .int 0, .int 0])), (fd, .inr (1, [.ref fc])), (fc, .inl (cy 0, 63, .inl (fun _ => 0)))]) 0 0 := by
  refine KV.of (by decide) (Nat.le_of_ble_eq_true rfl) (fun p e s m below meth c ls A F hin hE hP hD hA hS hl => ?_)
  have F : kF p s m meth c cX4_copyFrom 2 none _ RX4 := F
  obtain ⟨hx, hb, hr, hml, hown, hG, hlk⟩ := id F
  have hl : lv_has ls 2 [(0, .ref ik), (1, .ref nw)] := hl
  refine lv_aload_n hx hb dX4_copyFrom_0 rfl (lv_at hl 0 rfl) ?_
  refine va_get (D := D) (ci := 4) (v := .ref fk) (C := RX4) (T := TX4) (N := 6) hx hb hG inG_X4 hown hE.1 hP 0 rfl rfl 0 (by decide) (hG _ q_f_X4_12) (fun _ h9 => h9) rfl dX4_copyFrom_1 ?_
  refine lv_aload_n hx hb dX4_copyFrom_4 rfl (lv_at hl 1 rfl) ?_
  refine va_get (D := D) (ci := 4) (v := .ref fd) (C := RX4) (T := TX4) (N := 6) hx hb hG inG_X4 hown hE.1 hP 1 rfl rfl 0 (by decide) (hG _ q_f_X4_12) (fun _ h9 => h9) rfl dX4_copyFrom_5 ?_
  refine kwVV (wr := [(ik, .inr (4, [.ref fk, .ref bk, .ref tk, .int (-1), .int 0, .int 0])), (nw, .inr (4, [.ref fd, .ref bg, .ref nt, .int (-1), .int 0, .int 0])), (bk, .inr (1, [.ref bkc])), (bkc, .inl (cy 0, 63, .inl (fun _ => 0))), (bg, .inr (1, [.ref bc])), (bc, .inl (cy 0, 63, .inl (fun _ => 0))), (tk, .inr (5, [.ref tk1, .ref tk2, .ref tk3, .int 0])), (tk1, .inl (cy 0, 10, .inl (fun _ => 0))), (tk2, .inl (cy 0, 10, .inl (fun _ => 0))), (tk3, .inl (cy 0, 10, .inl (fun _ => 0))), (nt, .inr (5, [.ref nt1, .ref nt2, .ref nt3, .int 0])), (nt1, .inl (cy 0, 10, .inl (fun _ => 0))), (nt2, .inl (cy 0, 10, .inl (fun _ => 0))), (nt3, .inl (cy 0, 10, .inl (fun _ => 0)))]) (As := [.ref fd]) (rest := []) F hE hP hD hS hA hl.1 (c_copyField l D cy (qa := fk) (qc := fd) (qb := fkc) (fa := (fun _ => 0)) (qd := fc) (fb := (fun _ => 0))) q_m_X4_39 mv_X1_copyFrom ⟨(Nat.le_of_ble_eq_true rfl), (Nat.le_of_ble_eq_true rfl)⟩ [2, 3, 4, 5] [0, 1, 6, 7, 8, 9, 10, 11, 12, 13, 14, 15, 16, 17] (by decide) rfl rfl (by decide) (by decide) rfl rfl rfl rfl rfl (Nat.le_of_ble_eq_true rfl) ⟨(Nat.le_of_ble_eq_true rfl), (Nat.le_of_ble_eq_true rfl)⟩ dX4_copyFrom_8 (fun u_1 H locs eu_1 hP hD hS => ?_)
  have hP : va_P D vwCl [(ik, .inr (4, [.ref fk, .ref bk, .ref tk, .int (-1), .int 0, .int 0])), (nw, .inr (4, [.ref fd, .ref bg, .ref nt, .int (-1), .int 0, .int 0])), (bk, .inr (1, [.ref bkc])), (bkc, .inl (cy 0, 63, .inl (fun _ => 0))), (bg, .inr (1, [.ref bc])), (bc, .inl (cy 0, 63, .inl (fun _ => 0))), (tk, .inr (5, [.ref tk1, .ref tk2, .ref tk3, .int 0])), (tk1, .inl (cy 0, 10, .inl (fun _ => 0))), (tk2, .inl (cy 0, 10, .inl (fun _ => 0))), (tk3, .inl (cy 0, 10, .inl (fun _ => 0))), (nt, .inr (5, [.ref nt1, .ref nt2, .ref nt3, .int 0])), (nt1, .inl (cy 0, 10, .inl (fun _ => 0))), (nt2, .inl (cy 0, 10, .inl (fun _ => 0))), (nt3, .inl (cy 0, 10, .inl (fun _ => 0))), (fk, .inr (1, [.ref fkc])), (fkc, .inl (cy 0, 63, .inl (u_1))), (fd, .inr (1, [.ref fc])), (fc, .inl (cy 0, 63, .inl (fun _ => 0)))] H := hP
  have hD : va_D A [(ik, .inr (4, [.ref fk, .ref bk, .ref tk, .int (-1), .int 0, .int 0])), (nw, .inr (4, [.ref fd, .ref bg, .ref nt, .int (-1), .int 0, .int 0])), (bk, .inr (1, [.ref bkc])), (bkc, .inl (cy 0, 63, .inl (fun _ => 0))), (bg, .inr (1, [.ref bc])), (bc, .inl (cy 0, 63, .inl (fun _ => 0))), (tk, .inr (5, [.ref tk1, .ref tk2, .ref tk3, .int 0])), (tk1, .inl (cy 0, 10, .inl (fun _ => 0))), (tk2, .inl (cy 0, 10, .inl (fun _ => 0))), (tk3, .inl (cy 0, 10, .inl (fun _ => 0))), (nt, .inr (5, [.ref nt1, .ref nt2, .ref nt3, .int 0])), (nt1, .inl (cy 0, 10, .inl (fun _ => 0))), (nt2, .inl (cy 0, 10, .inl (fun _ => 0))), (nt3, .inl (cy 0, 10, .inl (fun _ => 0))), (fk, .inr (1, [.ref fkc])), (fkc, .inl (cy 0, 63, .inl (u_1))), (fd, .inr (1, [.ref fc])), (fc, .inl (cy 0, 63, .inl (fun _ => 0)))] := hD
  refine lv_aload_n hx hb dX4_copyFrom_11 rfl (lv_at hl 0 rfl) ?_
  refine va_get (D := D) (ci := 4) (v := .ref bk) (C := RX4) (T := TX4) (N := 6) hx hb hG inG_X4 hown hE.1 hP 0 rfl rfl 1 (by decide) (hG _ q_f_X4_18) (fun _ h9 => h9) rfl dX4_copyFrom_12 ?_
  refine lv_aload_n hx hb dX4_copyFrom_15 rfl (lv_at hl 1 rfl) ?_
  refine va_get (D := D) (ci := 4) (v := .ref bg) (C := RX4) (T := TX4) (N := 6) hx hb hG inG_X4 hown hE.1 hP 1 rfl rfl 1 (by decide) (hG _ q_f_X4_18) (fun _ h9 => h9) rfl dX4_copyFrom_16 ?_
  refine kwVV (wr := [(ik, .inr (4, [.ref fk, .ref bk, .ref tk, .int (-1), .int 0, .int 0])), (nw, .inr (4, [.ref fd, .ref bg, .ref nt, .int (-1), .int 0, .int 0])), (tk, .inr (5, [.ref tk1, .ref tk2, .ref tk3, .int 0])), (tk1, .inl (cy 0, 10, .inl (fun _ => 0))), (tk2, .inl (cy 0, 10, .inl (fun _ => 0))), (tk3, .inl (cy 0, 10, .inl (fun _ => 0))), (nt, .inr (5, [.ref nt1, .ref nt2, .ref nt3, .int 0])), (nt1, .inl (cy 0, 10, .inl (fun _ => 0))), (nt2, .inl (cy 0, 10, .inl (fun _ => 0))), (nt3, .inl (cy 0, 10, .inl (fun _ => 0))), (fk, .inr (1, [.ref fkc])), (fkc, .inl (cy 0, 63, .inl (u_1))), (fd, .inr (1, [.ref fc])), (fc, .inl (cy 0, 63, .inl (fun _ => 0)))]) (As := [.ref bg]) (rest := []) F hE hP hD hS hA hl.1 (c_copyField l D cy (qa := bk) (qc := bg) (qb := bkc) (fa := (fun _ => 0)) (qd := bc) (fb := (fun _ => 0))) q_m_X4_39 mv_X1_copyFrom ⟨(Nat.le_of_ble_eq_true rfl), (Nat.le_of_ble_eq_true rfl)⟩ [2, 3, 4, 5] [0, 1, 6, 7, 8, 9, 10, 11, 12, 13, 14, 15, 16, 17] (by decide) rfl rfl (by decide) (by decide) rfl rfl rfl rfl rfl (Nat.le_of_ble_eq_true rfl) ⟨(Nat.le_of_ble_eq_true rfl), (Nat.le_of_ble_eq_true rfl)⟩ dX4_copyFrom_19 (fun u_2 H locs eu_2 hP hD hS => ?_)
  have hP : va_P D vwCl [(ik, .inr (4, [.ref fk, .ref bk, .ref tk, .int (-1), .int 0, .int 0])), (nw, .inr (4, [.ref fd, .ref bg, .ref nt, .int (-1), .int 0, .int 0])), (tk, .inr (5, [.ref tk1, .ref tk2, .ref tk3, .int 0])), (tk1, .inl (cy 0, 10, .inl (fun _ => 0))), (tk2, .inl (cy 0, 10, .inl (fun _ => 0))), (tk3, .inl (cy 0, 10, .inl (fun _ => 0))), (nt, .inr (5, [.ref nt1, .ref nt2, .ref nt3, .int 0])), (nt1, .inl (cy 0, 10, .inl (fun _ => 0))), (nt2, .inl (cy 0, 10, .inl (fun _ => 0))), (nt3, .inl (cy 0, 10, .inl (fun _ => 0))), (fk, .inr (1, [.ref fkc])), (fkc, .inl (cy 0, 63, .inl (u_1))), (fd, .inr (1, [.ref fc])), (fc, .inl (cy 0, 63, .inl (fun _ => 0))), (bk, .inr (1, [.ref bkc])), (bkc, .inl (cy 0, 63, .inl (u_2))), (bg, .inr (1, [.ref bc])), (bc, .inl (cy 0, 63, .inl (fun _ => 0)))] H := hP
  have hD : va_D A [(ik, .inr (4, [.ref fk, .ref bk, .ref tk, .int (-1), .int 0, .int 0])), (nw, .inr (4, [.ref fd, .ref bg, .ref nt, .int (-1), .int 0, .int 0])), (tk, .inr (5, [.ref tk1, .ref tk2, .ref tk3, .int 0])), (tk1, .inl (cy 0, 10, .inl (fun _ => 0))), (tk2, .inl (cy 0, 10, .inl (fun _ => 0))), (tk3, .inl (cy 0, 10, .inl (fun _ => 0))), (nt, .inr (5, [.ref nt1, .ref nt2, .ref nt3, .int 0])), (nt1, .inl (cy 0, 10, .inl (fun _ => 0))), (nt2, .inl (cy 0, 10, .inl (fun _ => 0))), (nt3, .inl (cy 0, 10, .inl (fun _ => 0))), (fk, .inr (1, [.ref fkc])), (fkc, .inl (cy 0, 63, .inl (u_1))), (fd, .inr (1, [.ref fc])), (fc, .inl (cy 0, 63, .inl (fun _ => 0))), (bk, .inr (1, [.ref bkc])), (bkc, .inl (cy 0, 63, .inl (u_2))), (bg, .inr (1, [.ref bc])), (bc, .inl (cy 0, 63, .inl (fun _ => 0)))] := hD
  refine lv_aload_n hx hb dX4_copyFrom_22 rfl (lv_at hl 0 rfl) ?_
  refine va_get (D := D) (ci := 4) (v := .ref tk) (C := RX4) (T := TX4) (N := 6) hx hb hG inG_X4 hown hE.1 hP 0 rfl rfl 2 (by decide) (hG _ q_f_X4_24) (fun _ h9 => h9) rfl dX4_copyFrom_23 ?_
  refine lv_aload_n hx hb dX4_copyFrom_26 rfl (lv_at hl 1 rfl) ?_
  refine va_get (D := D) (ci := 4) (v := .ref nt) (C := RX4) (T := TX4) (N := 6) hx hb hG inG_X4 hown hE.1 hP 1 rfl rfl 2 (by decide) (hG _ q_f_X4_24) (fun _ h9 => h9) rfl dX4_copyFrom_27 ?_
  refine kwVV (wr := [(ik, .inr (4, [.ref fk, .ref bk, .ref tk, .int (-1), .int 0, .int 0])), (nw, .inr (4, [.ref fd, .ref bg, .ref nt, .int (-1), .int 0, .int 0])), (fk, .inr (1, [.ref fkc])), (fkc, .inl (cy 0, 63, .inl (u_1))), (fd, .inr (1, [.ref fc])), (fc, .inl (cy 0, 63, .inl (fun _ => 0))), (bk, .inr (1, [.ref bkc])), (bkc, .inl (cy 0, 63, .inl (u_2))), (bg, .inr (1, [.ref bc])), (bc, .inl (cy 0, 63, .inl (fun _ => 0)))]) (As := [.ref nt]) (rest := []) F hE hP hD hS hA hl.1 (c_copyNotes l D cy (na := tk) (nb := nt) (na1 := tk1) (na2 := tk2) (na3 := tk3) (fa1 := (fun _ => 0)) (fa2 := (fun _ => 0)) (fa3 := (fun _ => 0)) (nb1 := nt1) (nb2 := nt2) (nb3 := nt3) (fb1 := (fun _ => 0)) (fb2 := (fun _ => 0)) (fb3 := (fun _ => 0))) q_m_X4_43 mv_X5_copyFrom ⟨(Nat.le_of_ble_eq_true rfl), (Nat.le_of_ble_eq_true rfl)⟩ [2, 3, 4, 5, 6, 7, 8, 9] [0, 1, 10, 11, 12, 13, 14, 15, 16, 17] (by decide) rfl rfl (by decide) (by decide) rfl rfl rfl rfl rfl (Nat.le_of_ble_eq_true rfl) ⟨(Nat.le_of_ble_eq_true rfl), (Nat.le_of_ble_eq_true rfl)⟩ dX4_copyFrom_30 (fun u_3 H locs eu_3 hP hD hS => ?_)
  have hP : va_P D vwCl [(ik, .inr (4, [.ref fk, .ref bk, .ref tk, .int (-1), .int 0, .int 0])), (nw, .inr (4, [.ref fd, .ref bg, .ref nt, .int (-1), .int 0, .int 0])), (fk, .inr (1, [.ref fkc])), (fkc, .inl (cy 0, 63, .inl (u_1))), (fd, .inr (1, [.ref fc])), (fc, .inl (cy 0, 63, .inl (fun _ => 0))), (bk, .inr (1, [.ref bkc])), (bkc, .inl (cy 0, 63, .inl (u_2))), (bg, .inr (1, [.ref bc])), (bc, .inl (cy 0, 63, .inl (fun _ => 0)))] H := hP
  have hD : va_D A [(ik, .inr (4, [.ref fk, .ref bk, .ref tk, .int (-1), .int 0, .int 0])), (nw, .inr (4, [.ref fd, .ref bg, .ref nt, .int (-1), .int 0, .int 0])), (fk, .inr (1, [.ref fkc])), (fkc, .inl (cy 0, 63, .inl (u_1))), (fd, .inr (1, [.ref fc])), (fc, .inl (cy 0, 63, .inl (fun _ => 0))), (bk, .inr (1, [.ref bkc])), (bkc, .inl (cy 0, 63, .inl (u_2))), (bg, .inr (1, [.ref bc])), (bc, .inl (cy 0, 63, .inl (fun _ => 0)))] := hD
  refine lv_aload_n hx hb dX4_copyFrom_33 rfl (lv_at hl 0 rfl) ?_
  refine lv_aload_n hx hb dX4_copyFrom_34 rfl (lv_at hl 1 rfl) ?_
  refine va_get (D := D) (ci := 4) (v := .int (-1)) (C := RX4) (T := TX4) (N := 6) hx hb hG inG_X4 hown hE.1 hP 1 rfl rfl 3 (by decide) (hG _ q_f_X4_28) (fun _ h9 => h9) rfl dX4_copyFrom_35 ?_
  refine va_put (D := D) (ci := 4) (v := .int (-1)) (ty := .int) (C := RX4) (T := TX4) (N := 6) hx hb hG inG_X4 tyX4 tyX4_ok nmX4 hown hE.1 hP hD hS 0 rfl rfl 3 (by decide) (hG _ q_f_X4_28) (fun _ h9 => h9) rfl (by decide +kernel) rfl rfl (Nat.le_of_ble_eq_true rfl) dX4_copyFrom_38 (fun H locs hP hD hS => ?_)
  have hP : va_P D vwCl [(ik, .inr (4, [.ref fk, .ref bk, .ref tk, .int (-1), .int 0, .int 0])), (nw, .inr (4, [.ref fd, .ref bg, .ref nt, .int (-1), .int 0, .int 0])), (fk, .inr (1, [.ref fkc])), (fkc, .inl (cy 0, 63, .inl (u_1))), (fd, .inr (1, [.ref fc])), (fc, .inl (cy 0, 63, .inl (fun _ => 0))), (bk, .inr (1, [.ref bkc])), (bkc, .inl (cy 0, 63, .inl (u_2))), (bg, .inr (1, [.ref bc])), (bc, .inl (cy 0, 63, .inl (fun _ => 0)))] H := hP
  have hD : va_D A [(ik, .inr (4, [.ref fk, .ref bk, .ref tk, .int (-1), .int 0, .int 0])), (nw, .inr (4, [.ref fd, .ref bg, .ref nt, .int (-1), .int 0, .int 0])), (fk, .inr (1, [.ref fkc])), (fkc, .inl (cy 0, 63, .inl (u_1))), (fd, .inr (1, [.ref fc])), (fc, .inl (cy 0, 63, .inl (fun _ => 0))), (bk, .inr (1, [.ref bkc])), (bkc, .inl (cy 0, 63, .inl (u_2))), (bg, .inr (1, [.ref bc])), (bc, .inl (cy 0, 63, .inl (fun _ => 0)))] := hD
  refine lv_aload_n hx hb dX4_copyFrom_41 rfl (lv_at hl 0 rfl) ?_
  refine lv_aload_n hx hb dX4_copyFrom_42 rfl (lv_at hl 1 rfl) ?_
  refine va_get (D := D) (ci := 4) (v := .int 0) (C := RX4) (T := TX4) (N := 6) hx hb hG inG_X4 hown hE.1 hP 1 rfl rfl 4 (by decide) (hG _ q_f_X4_32) (fun _ h9 => h9) rfl dX4_copyFrom_43 ?_
  refine va_put (D := D) (ci := 4) (v := .int 0) (ty := .int) (C := RX4) (T := TX4) (N := 6) hx hb hG inG_X4 tyX4 tyX4_ok nmX4 hown hE.1 hP hD hS 0 rfl rfl 4 (by decide) (hG _ q_f_X4_32) (fun _ h9 => h9) rfl (by decide +kernel) rfl rfl (Nat.le_of_ble_eq_true rfl) dX4_copyFrom_46 (fun H locs hP hD hS => ?_)
  have hP : va_P D vwCl [(ik, .inr (4, [.ref fk, .ref bk, .ref tk, .int (-1), .int 0, .int 0])), (nw, .inr (4, [.ref fd, .ref bg, .ref nt, .int (-1), .int 0, .int 0])), (fk, .inr (1, [.ref fkc])), (fkc, .inl (cy 0, 63, .inl (u_1))), (fd, .inr (1, [.ref fc])), (fc, .inl (cy 0, 63, .inl (fun _ => 0))), (bk, .inr (1, [.ref bkc])), (bkc, .inl (cy 0, 63, .inl (u_2))), (bg, .inr (1, [.ref bc])), (bc, .inl (cy 0, 63, .inl (fun _ => 0)))] H := hP
  have hD : va_D A [(ik, .inr (4, [.ref fk, .ref bk, .ref tk, .int (-1), .int 0, .int 0])), (nw, .inr (4, [.ref fd, .ref bg, .ref nt, .int (-1), .int 0, .int 0])), (fk, .inr (1, [.ref fkc])), (fkc, .inl (cy 0, 63, .inl (u_1))), (fd, .inr (1, [.ref fc])), (fc, .inl (cy 0, 63, .inl (fun _ => 0))), (bk, .inr (1, [.ref bkc])), (bkc, .inl (cy 0, 63, .inl (u_2))), (bg, .inr (1, [.ref bc])), (bc, .inl (cy 0, 63, .inl (fun _ => 0)))] := hD
  exact KV.rt () F (hP.sub [0, 1, 4, 5] rfl) (hD.sub [0, 1, 4, 5] (by decide) rfl) hS (trivial) (Nat.le_of_ble_eq_true rfl) (Nat.le_of_ble_eq_true rfl) dX4_copyFrom_49

set_option maxHeartbeats 4000000 in
set_option maxRecDepth 100000 in
theorem x_imageIn (l : Launch) (D : va_G) (cy : Nat → ClassId) (h0 tp gr rr ru nw im ac py fo su : Nat) (fd bg nt fc : Nat) (x0 : Int32) (hk : ¬ (x0 < 0 ∨ 3 < x0)) (fi : Nat → Option Nat) (ik fk bk tk fkc bkc tk1 tk2 tk3 bc nt1 nt2 nt3 : Nat) (hfi : fi (Int32.toNatClampNeg x0) = some ik) : KI l yX11_image cX11_image 2 (some .int) 3 82 D (kTY cy) [.ref h0, .int x0] [(h0, .inr (11, [.ref tp, .ref gr, .ref rr, .ref ru, .int 0, .ref nw, .ref im, .ref ac, .ref py, .ref fo, .ref su])), (im, .inl (cy 4, 4, .inr (.inr (.inr (.inr (fi)))))), (ik, .inr (4, [.ref fk, .ref bk, .ref tk, .int (-1), .int 0, .int 0])), (nw, .inr (4, [.ref fd, .ref bg, .ref nt, .int (-1), .int 0, .int 0])), (fk, .inr (1, [.ref fkc])), (fkc, .inl (cy 0, 63, .inl (fun _ => 0))), (fd, .inr (1, [.ref fc])), (fc, .inl (cy 0, 63, .inl (fun _ => 0))), (bk, .inr (1, [.ref bkc])), (bkc, .inl (cy 0, 63, .inl (fun _ => 0))), (bg, .inr (1, [.ref bc])), (bc, .inl (cy 0, 63, .inl (fun _ => 0))), (tk, .inr (5, [.ref tk1, .ref tk2, .ref tk3, .int 0])), (tk1, .inl (cy 0, 10, .inl (fun _ => 0))), (tk2, .inl (cy 0, 10, .inl (fun _ => 0))), (tk3, .inl (cy 0, 10, .inl (fun _ => 0))), (nt, .inr (5, [.ref nt1, .ref nt2, .ref nt3, .int 0])), (nt1, .inl (cy 0, 10, .inl (fun _ => 0))), (nt2, .inl (cy 0, 10, .inl (fun _ => 0))), (nt3, .inl (cy 0, 10, .inl (fun _ => 0)))] (S := Unit) (fun r _ => r = 0) (fun _ => []) 0 0 := by
  refine KI.of (by decide) (Nat.le_of_ble_eq_true rfl) (fun p e s m below meth c ls A F hE hP hD hA hS hl => ?_)
  have F : kF p s m meth c cX11_image 2 (some .int) _ RX11 := F
  obtain ⟨hx, hb, hr, hml, hown, hG, hlk⟩ := id F
  have hl : lv_has ls 2 [(0, .ref h0), (1, .int x0)] := hl
  refine lv_iload_n hx hb dX11_image_0 rfl (lv_at hl 1 rfl) ?_
  refine lv_iconst (v := 0) hx hb dX11_image_1 (by decide) ?_
  refine lv_iconst (v := 3) hx hb dX11_image_2 (by decide) ?_
  refine kcS (As := [.int x0, .int 0, .int 3]) (rest := []) F hE hP hl.1 (c_within l D cy (x0 := x0) (x1 := 0) (x2 := 3)) q_m_X11_90 ms_X11_within ⟨(Nat.le_of_ble_eq_true rfl), (Nat.le_of_ble_eq_true rfl)⟩ [] rfl rfl rfl (Nat.le_of_ble_eq_true rfl) ⟨(Nat.le_of_ble_eq_true rfl), (Nat.le_of_ble_eq_true rfl)⟩ dX11_image_3 (fun r_1 er_1 => ?_)
  obtain rfl : r_1 = 1 := er_1.trans (if_neg hk)
  refine lv_if_ne (tgt := 11) hx hb dX11_image_6 (by decide) (fun _ => ?_) (fun q => absurd q (by decide))
  refine lv_aload_n hx hb dX11_image_11 rfl (lv_at hl 0 rfl) ?_
  refine va_get (D := D) (ci := 11) (v := .ref im) (C := RX11) (T := TX11) (N := 11) hx hb hG inG_X11 hown hE.1 hP 0 rfl rfl 6 (by decide) (hG _ q_f_X11_47) (fun _ h9 => h9) rfl dX11_image_12 ?_
  refine lv_iload_n hx hb dX11_image_15 rfl (lv_at hl 1 rfl) ?_
  refine va_aldq hx hb hE.1 hP 1 4 rfl rfl (k_in4 hk) dX11_image_16 ?_
  refine k_tv (z := .ref ik) (by rw [hfi]; rfl) ?_
  refine lv_aload_n hx hb dX11_image_17 rfl (lv_at hl 0 rfl) ?_
  refine va_get (D := D) (ci := 11) (v := .ref nw) (C := RX11) (T := TX11) (N := 11) hx hb hG inG_X11 hown hE.1 hP 0 rfl rfl 5 (by decide) (hG _ q_f_X11_43) (fun _ h9 => h9) rfl dX11_image_18 ?_
  refine kwVV (wr := [(h0, .inr (11, [.ref tp, .ref gr, .ref rr, .ref ru, .int 0, .ref nw, .ref im, .ref ac, .ref py, .ref fo, .ref su])), (im, .inl (cy 4, 4, .inr (.inr (.inr (.inr (fi))))))]) (As := [.ref nw]) (rest := []) F hE hP hD hS hA hl.1 (c_copyMoment l D cy (ik := ik) (nw := nw) (fk := fk) (bk := bk) (tk := tk) (fd := fd) (bg := bg) (nt := nt) (fkc := fkc) (fc := fc) (bkc := bkc) (bc := bc) (tk1 := tk1) (tk2 := tk2) (tk3 := tk3) (nt1 := nt1) (nt2 := nt2) (nt3 := nt3)) q_m_X11_270 mv_X4_copyFrom ⟨(Nat.le_of_ble_eq_true rfl), (Nat.le_of_ble_eq_true rfl)⟩ [2, 3, 4, 5, 6, 7, 8, 9, 10, 11, 12, 13, 14, 15, 16, 17, 18, 19] [0, 1] (by decide) rfl rfl (by decide) (by decide) rfl rfl rfl rfl rfl (Nat.le_of_ble_eq_true rfl) ⟨(Nat.le_of_ble_eq_true rfl), (Nat.le_of_ble_eq_true rfl)⟩ dX11_image_21 (fun u_2 H locs eu_2 hP hD hS => ?_)
  have hP : va_P D vwCl [(h0, .inr (11, [.ref tp, .ref gr, .ref rr, .ref ru, .int 0, .ref nw, .ref im, .ref ac, .ref py, .ref fo, .ref su])), (im, .inl (cy 4, 4, .inr (.inr (.inr (.inr (fi)))))), (ik, .inr (4, [.ref fk, .ref bk, .ref tk, .int (-1), .int 0, .int 0])), (nw, .inr (4, [.ref fd, .ref bg, .ref nt, .int (-1), .int 0, .int 0])), (fd, .inr (1, [.ref fc])), (fc, .inl (cy 0, 63, .inl (fun _ => 0)))] H := hP
  have hD : va_D A [(h0, .inr (11, [.ref tp, .ref gr, .ref rr, .ref ru, .int 0, .ref nw, .ref im, .ref ac, .ref py, .ref fo, .ref su])), (im, .inl (cy 4, 4, .inr (.inr (.inr (.inr (fi)))))), (ik, .inr (4, [.ref fk, .ref bk, .ref tk, .int (-1), .int 0, .int 0])), (nw, .inr (4, [.ref fd, .ref bg, .ref nt, .int (-1), .int 0, .int 0])), (fd, .inr (1, [.ref fc])), (fc, .inl (cy 0, 63, .inl (fun _ => 0)))] := hD
  refine lv_aload_n hx hb dX11_image_24 rfl (lv_at hl 0 rfl) ?_
  refine va_get (D := D) (ci := 11) (v := .ref im) (C := RX11) (T := TX11) (N := 11) hx hb hG inG_X11 hown hE.1 hP 0 rfl rfl 6 (by decide) (hG _ q_f_X11_47) (fun _ h9 => h9) rfl dX11_image_25 ?_
  refine lv_iload_n hx hb dX11_image_28 rfl (lv_at hl 1 rfl) ?_
  refine va_aldq hx hb hE.1 hP 1 4 rfl rfl (k_in4 hk) dX11_image_29 ?_
  refine k_tv (z := .ref ik) (by rw [hfi]; rfl) ?_
  refine lv_iconst (v := 1) hx hb dX11_image_30 (by decide) ?_
  refine va_put (D := D) (ci := 4) (v := .int 1) (ty := .boolean) (C := RX4) (T := TX4) (N := 6) hx hb hG inG_X4 tyX4 tyX4_ok nmX4 hown hE.1 hP hD hS 2 rfl rfl 5 (by decide) (hG _ q_f_X11_273) (fun _ h9 => h9) rfl (by decide +kernel) rfl rfl (Nat.le_of_ble_eq_true rfl) dX11_image_31 (fun H locs hP hD hS => ?_)
  have hP : va_P D vwCl [(h0, .inr (11, [.ref tp, .ref gr, .ref rr, .ref ru, .int 0, .ref nw, .ref im, .ref ac, .ref py, .ref fo, .ref su])), (im, .inl (cy 4, 4, .inr (.inr (.inr (.inr (fi)))))), (ik, .inr (4, [.ref fk, .ref bk, .ref tk, .int (-1), .int 0, .int 1])), (nw, .inr (4, [.ref fd, .ref bg, .ref nt, .int (-1), .int 0, .int 0])), (fd, .inr (1, [.ref fc])), (fc, .inl (cy 0, 63, .inl (fun _ => 0)))] H := hP
  have hD : va_D A [(h0, .inr (11, [.ref tp, .ref gr, .ref rr, .ref ru, .int 0, .ref nw, .ref im, .ref ac, .ref py, .ref fo, .ref su])), (im, .inl (cy 4, 4, .inr (.inr (.inr (.inr (fi)))))), (ik, .inr (4, [.ref fk, .ref bk, .ref tk, .int (-1), .int 0, .int 1])), (nw, .inr (4, [.ref fd, .ref bg, .ref nt, .int (-1), .int 0, .int 0])), (fd, .inr (1, [.ref fc])), (fc, .inl (cy 0, 63, .inl (fun _ => 0)))] := hD
  refine lv_aload_n hx hb dX11_image_34 rfl (lv_at hl 0 rfl) ?_
  refine va_get (D := D) (ci := 11) (v := .ref nw) (C := RX11) (T := TX11) (N := 11) hx hb hG inG_X11 hown hE.1 hP 0 rfl rfl 5 (by decide) (hG _ q_f_X11_43) (fun _ h9 => h9) rfl dX11_image_35 ?_
  refine va_get (D := D) (ci := 4) (v := .ref fd) (C := RX4) (T := TX4) (N := 6) hx hb hG inG_X4 hown hE.1 hP 3 rfl rfl 0 (by decide) (hG _ q_f_X11_111) (fun _ h9 => h9) rfl dX11_image_38 ?_
  refine va_get (D := D) (ci := 1) (v := .ref fc) (C := RX1) (T := TX1) (N := 1) hx hb hG inG_X1 hown hE.1 hP 4 rfl rfl 0 (by decide) (hG _ q_f_X11_124) (fun _ h9 => h9) rfl dX11_image_41 ?_
  refine lv_iconst (v := 5) hx hb dX11_image_44 (by decide) ?_
  refine va_iald hx hb hE.1 hP 5 0 rfl rfl (by unfold vp_in; decide) dX11_image_45 ?_
  refine k_top (z := 0) rfl ?_
  exact KI.rt () F rfl (hP.sub [] rfl) (hD.sub [] (by decide) rfl) hS (rfl) (Nat.le_of_ble_eq_true rfl) (Nat.le_of_ble_eq_true rfl) dX11_image_46
end
section
set_option maxHeartbeats 4000000 in
set_option maxRecDepth 100000 in
theorem c_in (l : Launch) (D : va_G) (cy : Nat → ClassId) (v0 v1 v2 : Int64) : KP l yX12_in cX12_in 6 (some .boolean) 0 0 D (kTY cy) [.long v0, .long v1, .long v2] [] (fun r => r = if v0 < v1 ∨ v2 < v0 then 0 else 1) := by
  refine KP.of (by decide) (Nat.le_of_ble_eq_true rfl) (fun p e s m below meth c ls F hE hP hl => ?_)
  have F : kF p s m meth c cX12_in 6 (some .boolean) _ RX12 := F
  obtain ⟨hx, hb, hr, hml, hown, hG, hlk⟩ := id F
  have hl : lv_has ls 6 [(0, .long v0), (2, .long v1), (4, .long v2)] := hl
  refine lv_lload_n hx hb dX12_in_0 rfl (lv_at hl 0 rfl) ?_
  refine lv_lload_n hx hb dX12_in_1 rfl (lv_at hl 1 rfl) ?_
  refine W.lcmp hx hb dX12_in_2 ?_
  refine lv_if_lt (tgt := 17) hx hb dX12_in_3 (by decide) (fun c_1 => ?_) (fun c_1 => ?_)
  · refine lv_iconst (v := 0) hx hb dX12_in_17 (by decide) ?_
    exact KP.rt F rfl (by rw [if_pos (Or.inl ((lg_cmp_lt _ _).mp c_1))]) dX12_in_18
  · refine lv_lload_n hx hb dX12_in_6 rfl (lv_at hl 0 rfl) ?_
    refine lv_lload hx hb dX12_in_7 (lv_at hl 2 rfl) ?_
    refine W.lcmp hx hb dX12_in_9 ?_
    refine lv_if_gt (tgt := 17) hx hb dX12_in_10 (by decide) (fun c_2 => ?_) (fun c_2 => ?_)
    · refine lv_iconst (v := 0) hx hb dX12_in_17 (by decide) ?_
      exact KP.rt F rfl (by rw [if_pos (Or.inr ((lg_cmp_gt _ _).mp c_2))]) dX12_in_18
    · refine lv_iconst (v := 1) hx hb dX12_in_13 (by decide) ?_
      refine lv_goto (tgt := 18) hx hb dX12_in_14 (by decide) ?_
      exact KP.rt F rfl (by rw [if_neg (fun q => q.elim (fun q => c_1 ((lg_cmp_lt _ _).mpr q)) (fun q => c_2 ((lg_cmp_gt _ _).mpr q)))]) dX12_in_18

set_option maxHeartbeats 4000000 in
set_option maxRecDepth 100000 in
theorem c_isGreen (l : Launch) (D : va_G) (cy : Nat → ClassId) (m0 a_tape a_sign a_length a_clause a_clauses a_read a_open a_stack a_word a_said a_planned a_cameOf a_wasSaid a_kept a_rowNow a_rowBest a_hasBy a_isFit a_cameThen a_images a_imageForce a_imageX a_isMade : Nat) : KP l yX12_isGreen cX12_isGreen 1 (some .boolean) 0 0 D (kTY cy) [.ref m0] [(m0, .inr (12, [.ref a_tape, .int 0, .int 0, .ref a_sign, .ref a_length, .ref a_clause, .ref a_clauses, .ref a_read, .int 0, .int 0, .int 0, .int 0, .int 0, .int 0, .int 0, .ref a_open, .int 0, .ref a_stack, .int 0, .ref a_word, .ref a_said, .int (-1), .int 0, .int (-1), .ref a_planned, .ref a_cameOf, .ref a_wasSaid, .int 0, .ref a_kept, .ref a_rowNow, .ref a_rowBest, .ref a_hasBy, .ref a_isFit, .ref a_cameThen, .long 0, .ref a_images, .ref a_imageForce, .ref a_imageX, .ref a_isMade])), (a_said, .inl (cy 0, 115, .inl (fun _ => 0)))] (fun r => r = 0) := by
  refine KP.of (by decide) (Nat.le_of_ble_eq_true rfl) (fun p e s m below meth c ls F hE hP hl => ?_)
  have F : kF p s m meth c cX12_isGreen 1 (some .boolean) _ RX12 := F
  obtain ⟨hx, hb, hr, hml, hown, hG, hlk⟩ := id F
  have hl : lv_has ls 1 [(0, .ref m0)] := hl
  refine lv_aload_n hx hb dX12_isGreen_0 rfl (lv_at hl 0 rfl) ?_
  refine va_get (D := D) (ci := 12) (v := .ref a_said) (C := RX12) (T := TX12) (N := 39) hx hb hG inG_X12 hown hE.1 hP 0 rfl rfl 20 (by decide) (hG _ q_f_X12_39) (fun _ h9 => h9) rfl dX12_isGreen_1 ?_
  refine lv_iconst (v := 0) hx hb dX12_isGreen_4 (by decide) ?_
  refine va_iald hx hb hE.1 hP 1 0 rfl rfl (by unfold vp_in; decide) dX12_isGreen_5 ?_
  refine k_top (z := 0) rfl ?_
  refine lv_iconst (v := 1) hx hb dX12_isGreen_6 (by decide) ?_
  refine lv_icmp_ne (tgt := 14) hx hb dX12_isGreen_7 (by decide) (fun _ => ?_) (fun q => absurd q (by decide))
  refine lv_iconst (v := 0) hx hb dX12_isGreen_14 (by decide) ?_
  exact KP.rt F rfl (rfl) dX12_isGreen_15

set_option maxHeartbeats 4000000 in
set_option maxRecDepth 100000 in
theorem c_isRing (l : Launch) (D : va_G) (cy : Nat → ClassId) (m0 a_tape a_sign a_length a_clause a_clauses a_read a_open a_stack a_word a_said a_planned a_cameOf a_wasSaid a_kept a_rowNow a_rowBest a_hasBy a_isFit a_cameThen a_images a_imageForce a_imageX a_isMade : Nat) (x0 : Int32) : KP l yX12_isRing cX12_isRing 2 (some .boolean) 0 0 D (kTY cy) [.ref m0, .int x0] [(m0, .inr (12, [.ref a_tape, .int 0, .int 0, .ref a_sign, .ref a_length, .ref a_clause, .ref a_clauses, .ref a_read, .int 0, .int 0, .int 0, .int 0, .int 0, .int 0, .int 0, .ref a_open, .int 0, .ref a_stack, .int 0, .ref a_word, .ref a_said, .int (-1), .int 0, .int (-1), .ref a_planned, .ref a_cameOf, .ref a_wasSaid, .int 0, .ref a_kept, .ref a_rowNow, .ref a_rowBest, .ref a_hasBy, .ref a_isFit, .ref a_cameThen, .long 0, .ref a_images, .ref a_imageForce, .ref a_imageX, .ref a_isMade])), (a_said, .inl (cy 0, 115, .inl (fun _ => 0)))] (fun r => r = 0) := by
  refine KP.of (by decide) (Nat.le_of_ble_eq_true rfl) (fun p e s m below meth c ls F hE hP hl => ?_)
  have F : kF p s m meth c cX12_isRing 2 (some .boolean) _ RX12 := F
  obtain ⟨hx, hb, hr, hml, hown, hG, hlk⟩ := id F
  have hl : lv_has ls 2 [(0, .ref m0), (1, .int x0)] := hl
  refine lv_iload_n hx hb dX12_isRing_0 rfl (lv_at hl 1 rfl) ?_
  refine lv_if_lt (tgt := 18) hx hb dX12_isRing_1 (by decide) (fun c_1 => ?_) (fun c_1 => ?_)
  · refine lv_iconst (v := 0) hx hb dX12_isRing_18 (by decide) ?_
    exact KP.rt F rfl rfl dX12_isRing_19
  · refine lv_iload_n hx hb dX12_isRing_4 rfl (lv_at hl 1 rfl) ?_
    refine lv_aload_n hx hb dX12_isRing_5 rfl (lv_at hl 0 rfl) ?_
    refine va_get (D := D) (ci := 12) (v := .ref a_said) (C := RX12) (T := TX12) (N := 39) hx hb hG inG_X12 hown hE.1 hP 0 rfl rfl 20 (by decide) (hG _ q_f_X12_39) (fun _ h9 => h9) rfl dX12_isRing_6 ?_
    refine lv_iconst (v := 4) hx hb dX12_isRing_9 (by decide) ?_
    refine va_iald hx hb hE.1 hP 1 0 rfl rfl (by unfold vp_in; decide) dX12_isRing_10 ?_
    refine k_top (z := 0) rfl ?_
    refine lv_icmp_ge (tgt := 18) hx hb dX12_isRing_11 (by decide) (fun c_2 => ?_) (fun c_2 => ?_)
    · refine lv_iconst (v := 0) hx hb dX12_isRing_18 (by decide) ?_
      exact KP.rt F rfl rfl dX12_isRing_19
    · refine lv_iconst (v := 1) hx hb dX12_isRing_14 (by decide) ?_
      refine lv_goto (tgt := 19) hx hb dX12_isRing_15 (by decide) ?_
      exact absurd (show _ < _ from Int32.not_le.mp c_2) c_1

set_option maxHeartbeats 4000000 in
set_option maxRecDepth 100000 in
theorem c_isArcher (l : Launch) (D : va_G) (cy : Nat → ClassId) (m0 a_tape a_sign a_length a_clause a_clauses a_read a_open a_stack a_word a_said a_planned a_cameOf a_wasSaid a_kept a_rowNow a_rowBest a_hasBy a_isFit a_cameThen a_images a_imageForce a_imageX a_isMade : Nat) (x0 : Int32) : KP l yX12_isArcher cX12_isArcher 2 (some .boolean) 0 0 D (kTY cy) [.ref m0, .int x0] [(m0, .inr (12, [.ref a_tape, .int 0, .int 0, .ref a_sign, .ref a_length, .ref a_clause, .ref a_clauses, .ref a_read, .int 0, .int 0, .int 0, .int 0, .int 0, .int 0, .int 0, .ref a_open, .int 0, .ref a_stack, .int 0, .ref a_word, .ref a_said, .int (-1), .int 0, .int (-1), .ref a_planned, .ref a_cameOf, .ref a_wasSaid, .int 0, .ref a_kept, .ref a_rowNow, .ref a_rowBest, .ref a_hasBy, .ref a_isFit, .ref a_cameThen, .long 0, .ref a_images, .ref a_imageForce, .ref a_imageX, .ref a_isMade])), (a_said, .inl (cy 0, 115, .inl (fun _ => 0)))] (fun r => r = 0) := by
  refine KP.of (by decide) (Nat.le_of_ble_eq_true rfl) (fun p e s m below meth c ls F hE hP hl => ?_)
  have F : kF p s m meth c cX12_isArcher 2 (some .boolean) _ RX12 := F
  obtain ⟨hx, hb, hr, hml, hown, hG, hlk⟩ := id F
  have hl : lv_has ls 2 [(0, .ref m0), (1, .int x0)] := hl
  refine lv_iload_n hx hb dX12_isArcher_0 rfl (lv_at hl 1 rfl) ?_
  refine lv_if_lt (tgt := 18) hx hb dX12_isArcher_1 (by decide) (fun c_1 => ?_) (fun c_1 => ?_)
  · refine lv_iconst (v := 0) hx hb dX12_isArcher_18 (by decide) ?_
    exact KP.rt F rfl rfl dX12_isArcher_19
  · refine lv_iload_n hx hb dX12_isArcher_4 rfl (lv_at hl 1 rfl) ?_
    refine lv_aload_n hx hb dX12_isArcher_5 rfl (lv_at hl 0 rfl) ?_
    refine va_get (D := D) (ci := 12) (v := .ref a_said) (C := RX12) (T := TX12) (N := 39) hx hb hG inG_X12 hown hE.1 hP 0 rfl rfl 20 (by decide) (hG _ q_f_X12_39) (fun _ h9 => h9) rfl dX12_isArcher_6 ?_
    refine lv_iconst (v := 5) hx hb dX12_isArcher_9 (by decide) ?_
    refine va_iald hx hb hE.1 hP 1 0 rfl rfl (by unfold vp_in; decide) dX12_isArcher_10 ?_
    refine k_top (z := 0) rfl ?_
    refine lv_icmp_ge (tgt := 18) hx hb dX12_isArcher_11 (by decide) (fun c_2 => ?_) (fun c_2 => ?_)
    · refine lv_iconst (v := 0) hx hb dX12_isArcher_18 (by decide) ?_
      exact KP.rt F rfl rfl dX12_isArcher_19
    · refine lv_iconst (v := 1) hx hb dX12_isArcher_14 (by decide) ?_
      refine lv_goto (tgt := 19) hx hb dX12_isArcher_15 (by decide) ?_
      exact absurd (show _ < _ from Int32.not_le.mp c_2) c_1

set_option maxHeartbeats 4000000 in
set_option maxRecDepth 100000 in
theorem c_isRule (l : Launch) (D : va_G) (cy : Nat → ClassId) (m0 a_tape a_sign a_length a_clause a_clauses a_read a_open a_stack a_word a_said a_planned a_cameOf a_wasSaid a_kept a_rowNow a_rowBest a_hasBy a_isFit a_cameThen a_images a_imageForce a_imageX a_isMade : Nat) (x0 : Int32) : KP l yX12_isRule cX12_isRule 2 (some .boolean) 0 0 D (kTY cy) [.ref m0, .int x0] [(m0, .inr (12, [.ref a_tape, .int 0, .int 0, .ref a_sign, .ref a_length, .ref a_clause, .ref a_clauses, .ref a_read, .int 0, .int 0, .int 0, .int 0, .int 0, .int 0, .int 0, .ref a_open, .int 0, .ref a_stack, .int 0, .ref a_word, .ref a_said, .int (-1), .int 0, .int (-1), .ref a_planned, .ref a_cameOf, .ref a_wasSaid, .int 0, .ref a_kept, .ref a_rowNow, .ref a_rowBest, .ref a_hasBy, .ref a_isFit, .ref a_cameThen, .long 0, .ref a_images, .ref a_imageForce, .ref a_imageX, .ref a_isMade]))] (fun r => r = 0) := by
  refine KP.of (by decide) (Nat.le_of_ble_eq_true rfl) (fun p e s m below meth c ls F hE hP hl => ?_)
  have F : kF p s m meth c cX12_isRule 2 (some .boolean) _ RX12 := F
  obtain ⟨hx, hb, hr, hml, hown, hG, hlk⟩ := id F
  have hl : lv_has ls 2 [(0, .ref m0), (1, .int x0)] := hl
  refine lv_iload_n hx hb dX12_isRule_0 rfl (lv_at hl 1 rfl) ?_
  refine lv_if_lt (tgt := 16) hx hb dX12_isRule_1 (by decide) (fun c_1 => ?_) (fun c_1 => ?_)
  · refine lv_iconst (v := 0) hx hb dX12_isRule_16 (by decide) ?_
    exact KP.rt F rfl rfl dX12_isRule_17
  · refine lv_iload_n hx hb dX12_isRule_4 rfl (lv_at hl 1 rfl) ?_
    refine lv_aload_n hx hb dX12_isRule_5 rfl (lv_at hl 0 rfl) ?_
    refine va_get (D := D) (ci := 12) (v := .int 0) (C := RX12) (T := TX12) (N := 39) hx hb hG inG_X12 hown hE.1 hP 0 rfl rfl 2 (by decide) (hG _ q_f_X12_267) (fun _ h9 => h9) rfl dX12_isRule_6 ?_
    refine lv_icmp_ge (tgt := 16) hx hb dX12_isRule_9 (by decide) (fun c_2 => ?_) (fun c_2 => ?_)
    · refine lv_iconst (v := 0) hx hb dX12_isRule_16 (by decide) ?_
      exact KP.rt F rfl rfl dX12_isRule_17
    · refine lv_iconst (v := 1) hx hb dX12_isRule_12 (by decide) ?_
      refine lv_goto (tgt := 17) hx hb dX12_isRule_13 (by decide) ?_
      exact absurd (show _ < _ from Int32.not_le.mp c_2) c_1

set_option maxHeartbeats 4000000 in
set_option maxRecDepth 100000 in
theorem c_comingRound (l : Launch) (D : va_G) (cy : Nat → ClassId) (m0 a_tape a_sign a_length a_clause a_clauses a_read a_open a_stack a_word a_said a_planned a_cameOf a_wasSaid a_kept a_rowNow a_rowBest a_hasBy a_isFit a_cameThen a_images a_imageForce a_imageX a_isMade : Nat) : KP l yX12_comingRound cX12_comingRound 1 (some .int) 1 20 D (kTY cy) [.ref m0] [(m0, .inr (12, [.ref a_tape, .int 0, .int 0, .ref a_sign, .ref a_length, .ref a_clause, .ref a_clauses, .ref a_read, .int 0, .int 0, .int 0, .int 0, .int 0, .int 0, .int 0, .ref a_open, .int 0, .ref a_stack, .int 0, .ref a_word, .ref a_said, .int (-1), .int 0, .int (-1), .ref a_planned, .ref a_cameOf, .ref a_wasSaid, .int 0, .ref a_kept, .ref a_rowNow, .ref a_rowBest, .ref a_hasBy, .ref a_isFit, .ref a_cameThen, .long 0, .ref a_images, .ref a_imageForce, .ref a_imageX, .ref a_isMade])), (a_said, .inl (cy 0, 115, .inl (fun _ => 0)))] (fun r => r = 0) := by
  refine KP.of (by decide) (Nat.le_of_ble_eq_true rfl) (fun p e s m below meth c ls F hE hP hl => ?_)
  have F : kF p s m meth c cX12_comingRound 1 (some .int) _ RX12 := F
  obtain ⟨hx, hb, hr, hml, hown, hG, hlk⟩ := id F
  have hl : lv_has ls 1 [(0, .ref m0)] := hl
  refine lv_aload_n hx hb dX12_comingRound_0 rfl (lv_at hl 0 rfl) ?_
  refine kcV (As := []) (rest := []) F hE hP hl.1 (c_isGreen l D cy (m0 := m0) (a_tape := a_tape) (a_sign := a_sign) (a_length := a_length) (a_clause := a_clause) (a_clauses := a_clauses) (a_read := a_read) (a_open := a_open) (a_stack := a_stack) (a_word := a_word) (a_said := a_said) (a_planned := a_planned) (a_cameOf := a_cameOf) (a_wasSaid := a_wasSaid) (a_kept := a_kept) (a_rowNow := a_rowNow) (a_rowBest := a_rowBest) (a_hasBy := a_hasBy) (a_isFit := a_isFit) (a_cameThen := a_cameThen) (a_images := a_images) (a_imageForce := a_imageForce) (a_imageX := a_imageX) (a_isMade := a_isMade)) q_m_X12_294 mv_X12_isGreen ⟨(Nat.le_of_ble_eq_true rfl), (Nat.le_of_ble_eq_true rfl)⟩ [0, 1] rfl rfl rfl rfl rfl rfl (Nat.le_of_ble_eq_true rfl) ⟨(Nat.le_of_ble_eq_true rfl), (Nat.le_of_ble_eq_true rfl)⟩ dX12_comingRound_1 (fun r_1 er_1 => ?_)
  subst er_1
  refine lv_if_ne (tgt := 11) hx hb dX12_comingRound_4 (by decide) (fun q => absurd q (by decide)) (fun _ => ?_)
  refine lv_iconst (v := 0) hx hb dX12_comingRound_7 (by decide) ?_
  refine lv_goto (tgt := 30) hx hb dX12_comingRound_8 (by decide) ?_
  exact KP.rt F rfl (rfl) dX12_comingRound_30

set_option maxHeartbeats 4000000 in
set_option maxRecDepth 100000 in
theorem c_sumOver (l : Launch) (D : va_G) (cy : Nat → ClassId) (m0 a_tape a_sign a_length a_clause a_clauses a_read a_open a_stack a_word a_said a_planned a_cameOf a_wasSaid a_kept a_rowNow a_rowBest a_hasBy a_isFit a_cameThen a_images a_imageForce a_imageX a_isMade : Nat) (x0 : Int32) : KP l yX12_sumOver cX12_sumOver 4 (some .int) 0 0 D (kTY cy) [.ref m0, .int x0] [(m0, .inr (12, [.ref a_tape, .int 0, .int 0, .ref a_sign, .ref a_length, .ref a_clause, .ref a_clauses, .ref a_read, .int 0, .int 0, .int 0, .int 0, .int 0, .int 0, .int 0, .ref a_open, .int 0, .ref a_stack, .int 0, .ref a_word, .ref a_said, .int (-1), .int 0, .int (-1), .ref a_planned, .ref a_cameOf, .ref a_wasSaid, .int 0, .ref a_kept, .ref a_rowNow, .ref a_rowBest, .ref a_hasBy, .ref a_isFit, .ref a_cameThen, .long 0, .ref a_images, .ref a_imageForce, .ref a_imageX, .ref a_isMade])), (a_said, .inl (cy 0, 115, .inl (fun _ => 0)))] (fun r => r = 0) := by
  refine KP.of (by decide) (Nat.le_of_ble_eq_true rfl) (fun p e s m below meth c ls F hE hP hl => ?_)
  have F : kF p s m meth c cX12_sumOver 4 (some .int) _ RX12 := F
  obtain ⟨hx, hb, hr, hml, hown, hG, hlk⟩ := id F
  have hl : lv_has ls 4 [(0, .ref m0), (1, .int x0)] := hl
  refine lv_iconst (v := 0) hx hb dX12_sumOver_0 (by decide) ?_
  refine lv_istore_n (lv' := [(2, .int 0), (0, .ref m0), (1, .int x0)]) hx hb dX12_sumOver_1 rfl hl (by decide) rfl (fun ls hl => ?_)
  refine lv_iconst (v := 0) hx hb dX12_sumOver_2 (by decide) ?_
  refine lv_istore_n (lv' := [(3, .int 0), (2, .int 0), (0, .ref m0), (1, .int x0)]) hx hb dX12_sumOver_3 rfl hl (by decide) rfl (fun ls hl => ?_)
  refine lv_iload_n hx hb dX12_sumOver_4 rfl (lv_at hl 0 rfl) ?_
  refine lv_aload_n hx hb dX12_sumOver_5 rfl (lv_at hl 2 rfl) ?_
  refine va_get (D := D) (ci := 12) (v := .ref a_said) (C := RX12) (T := TX12) (N := 39) hx hb hG inG_X12 hown hE.1 hP 0 rfl rfl 20 (by decide) (hG _ q_f_X12_39) (fun _ h9 => h9) rfl dX12_sumOver_6 ?_
  refine lv_iconst (v := 5) hx hb dX12_sumOver_9 (by decide) ?_
  refine va_iald hx hb hE.1 hP 1 0 rfl rfl (by unfold vp_in; decide) dX12_sumOver_10 ?_
  refine k_top (z := 0) rfl ?_
  refine lv_icmp_ge (tgt := 36) hx hb dX12_sumOver_11 (by decide) (fun _ => ?_) (fun q => absurd q (by decide))
  refine lv_iload_n hx hb dX12_sumOver_36 rfl (lv_at hl 1 rfl) ?_
  exact KP.rt F rfl (rfl) dX12_sumOver_37

set_option maxHeartbeats 4000000 in
set_option maxRecDepth 100000 in
theorem m_ring (l : Launch) (D : va_G) (cy : Nat → ClassId) (m0 a_tape a_sign a_length a_clause a_clauses a_read a_open a_stack a_word a_said a_planned a_cameOf a_wasSaid a_kept a_rowNow a_rowBest a_hasBy a_isFit a_cameThen a_images a_imageForce a_imageX a_isMade : Nat) (x0 : Int32) (x1 : Int32) : KP l yX12_ring cX12_ring 3 (some .int) 1 21 D (kTY cy) [.ref m0, .int x0, .int x1] [(m0, .inr (12, [.ref a_tape, .int 0, .int 0, .ref a_sign, .ref a_length, .ref a_clause, .ref a_clauses, .ref a_read, .int 0, .int 0, .int 0, .int 0, .int 0, .int 0, .int 0, .ref a_open, .int 0, .ref a_stack, .int 0, .ref a_word, .ref a_said, .int (-1), .int 0, .int (-1), .ref a_planned, .ref a_cameOf, .ref a_wasSaid, .int 0, .ref a_kept, .ref a_rowNow, .ref a_rowBest, .ref a_hasBy, .ref a_isFit, .ref a_cameThen, .long 0, .ref a_images, .ref a_imageForce, .ref a_imageX, .ref a_isMade])), (a_said, .inl (cy 0, 115, .inl (fun _ => 0)))] (fun r => r = (-1)) := by
  refine KP.of (by decide) (Nat.le_of_ble_eq_true rfl) (fun p e s m below meth c ls F hE hP hl => ?_)
  have F : kF p s m meth c cX12_ring 3 (some .int) _ RX12 := F
  obtain ⟨hx, hb, hr, hml, hown, hG, hlk⟩ := id F
  have hl : lv_has ls 3 [(0, .ref m0), (1, .int x0), (2, .int x1)] := hl
  refine lv_aload_n hx hb dX12_ring_0 rfl (lv_at hl 0 rfl) ?_
  refine lv_iload_n hx hb dX12_ring_1 rfl (lv_at hl 1 rfl) ?_
  refine kcV (As := [.int x0]) (rest := []) F hE hP hl.1 (c_isRing l D cy (m0 := m0) (x0 := x0) (a_tape := a_tape) (a_sign := a_sign) (a_length := a_length) (a_clause := a_clause) (a_clauses := a_clauses) (a_read := a_read) (a_open := a_open) (a_stack := a_stack) (a_word := a_word) (a_said := a_said) (a_planned := a_planned) (a_cameOf := a_cameOf) (a_wasSaid := a_wasSaid) (a_kept := a_kept) (a_rowNow := a_rowNow) (a_rowBest := a_rowBest) (a_hasBy := a_hasBy) (a_isFit := a_isFit) (a_cameThen := a_cameThen) (a_images := a_images) (a_imageForce := a_imageForce) (a_imageX := a_imageX) (a_isMade := a_isMade)) q_m_X12_309 mv_X12_isRing ⟨(Nat.le_of_ble_eq_true rfl), (Nat.le_of_ble_eq_true rfl)⟩ [0, 1] rfl rfl rfl rfl rfl rfl (Nat.le_of_ble_eq_true rfl) ⟨(Nat.le_of_ble_eq_true rfl), (Nat.le_of_ble_eq_true rfl)⟩ dX12_ring_2 (fun r_1 er_1 => ?_)
  subst er_1
  refine lv_if_eq (tgt := 20) hx hb dX12_ring_5 (by decide) (fun _ => ?_) (fun q => absurd q (by decide))
  refine lv_iconst (v := (-1)) hx hb dX12_ring_20 (by decide) ?_
  exact KP.rt F rfl rfl dX12_ring_21

set_option maxHeartbeats 4000000 in
set_option maxRecDepth 100000 in
theorem m_archer (l : Launch) (D : va_G) (cy : Nat → ClassId) (m0 a_tape a_sign a_length a_clause a_clauses a_read a_open a_stack a_word a_said a_planned a_cameOf a_wasSaid a_kept a_rowNow a_rowBest a_hasBy a_isFit a_cameThen a_images a_imageForce a_imageX a_isMade : Nat) (x0 : Int32) (x1 : Int32) : KP l yX12_archer cX12_archer 3 (some .int) 1 21 D (kTY cy) [.ref m0, .int x0, .int x1] [(m0, .inr (12, [.ref a_tape, .int 0, .int 0, .ref a_sign, .ref a_length, .ref a_clause, .ref a_clauses, .ref a_read, .int 0, .int 0, .int 0, .int 0, .int 0, .int 0, .int 0, .ref a_open, .int 0, .ref a_stack, .int 0, .ref a_word, .ref a_said, .int (-1), .int 0, .int (-1), .ref a_planned, .ref a_cameOf, .ref a_wasSaid, .int 0, .ref a_kept, .ref a_rowNow, .ref a_rowBest, .ref a_hasBy, .ref a_isFit, .ref a_cameThen, .long 0, .ref a_images, .ref a_imageForce, .ref a_imageX, .ref a_isMade])), (a_said, .inl (cy 0, 115, .inl (fun _ => 0)))] (fun r => r = (-1)) := by
  refine KP.of (by decide) (Nat.le_of_ble_eq_true rfl) (fun p e s m below meth c ls F hE hP hl => ?_)
  have F : kF p s m meth c cX12_archer 3 (some .int) _ RX12 := F
  obtain ⟨hx, hb, hr, hml, hown, hG, hlk⟩ := id F
  have hl : lv_has ls 3 [(0, .ref m0), (1, .int x0), (2, .int x1)] := hl
  refine lv_aload_n hx hb dX12_archer_0 rfl (lv_at hl 0 rfl) ?_
  refine lv_iload_n hx hb dX12_archer_1 rfl (lv_at hl 1 rfl) ?_
  refine kcV (As := [.int x0]) (rest := []) F hE hP hl.1 (c_isArcher l D cy (m0 := m0) (x0 := x0) (a_tape := a_tape) (a_sign := a_sign) (a_length := a_length) (a_clause := a_clause) (a_clauses := a_clauses) (a_read := a_read) (a_open := a_open) (a_stack := a_stack) (a_word := a_word) (a_said := a_said) (a_planned := a_planned) (a_cameOf := a_cameOf) (a_wasSaid := a_wasSaid) (a_kept := a_kept) (a_rowNow := a_rowNow) (a_rowBest := a_rowBest) (a_hasBy := a_hasBy) (a_isFit := a_isFit) (a_cameThen := a_cameThen) (a_images := a_images) (a_imageForce := a_imageForce) (a_imageX := a_imageX) (a_isMade := a_isMade)) q_m_X12_314 mv_X12_isArcher ⟨(Nat.le_of_ble_eq_true rfl), (Nat.le_of_ble_eq_true rfl)⟩ [0, 1] rfl rfl rfl rfl rfl rfl (Nat.le_of_ble_eq_true rfl) ⟨(Nat.le_of_ble_eq_true rfl), (Nat.le_of_ble_eq_true rfl)⟩ dX12_archer_2 (fun r_1 er_1 => ?_)
  subst er_1
  refine lv_if_ne (tgt := 10) hx hb dX12_archer_5 (by decide) (fun q => absurd q (by decide)) (fun _ => ?_)
  refine lv_iconst (v := (-1)) hx hb dX12_archer_8 (by decide) ?_
  exact KP.rt F rfl rfl dX12_archer_9

set_option maxHeartbeats 4000000 in
set_option maxRecDepth 100000 in
theorem m_round (l : Launch) (D : va_G) (cy : Nat → ClassId) (m0 a_tape a_sign a_length a_clause a_clauses a_read a_open a_stack a_word a_said a_planned a_cameOf a_wasSaid a_kept a_rowNow a_rowBest a_hasBy a_isFit a_cameThen a_images a_imageForce a_imageX a_isMade : Nat) : KP l yX12_round cX12_round 1 (some .int) 1 20 D (kTY cy) [.ref m0] [(m0, .inr (12, [.ref a_tape, .int 0, .int 0, .ref a_sign, .ref a_length, .ref a_clause, .ref a_clauses, .ref a_read, .int 0, .int 0, .int 0, .int 0, .int 0, .int 0, .int 0, .ref a_open, .int 0, .ref a_stack, .int 0, .ref a_word, .ref a_said, .int (-1), .int 0, .int (-1), .ref a_planned, .ref a_cameOf, .ref a_wasSaid, .int 0, .ref a_kept, .ref a_rowNow, .ref a_rowBest, .ref a_hasBy, .ref a_isFit, .ref a_cameThen, .long 0, .ref a_images, .ref a_imageForce, .ref a_imageX, .ref a_isMade])), (a_said, .inl (cy 0, 115, .inl (fun _ => 0)))] (fun r => r = (-1)) := by
  refine KP.of (by decide) (Nat.le_of_ble_eq_true rfl) (fun p e s m below meth c ls F hE hP hl => ?_)
  have F : kF p s m meth c cX12_round 1 (some .int) _ RX12 := F
  obtain ⟨hx, hb, hr, hml, hown, hG, hlk⟩ := id F
  have hl : lv_has ls 1 [(0, .ref m0)] := hl
  refine lv_aload_n hx hb dX12_round_0 rfl (lv_at hl 0 rfl) ?_
  refine kcV (As := []) (rest := []) F hE hP hl.1 (c_isGreen l D cy (m0 := m0) (a_tape := a_tape) (a_sign := a_sign) (a_length := a_length) (a_clause := a_clause) (a_clauses := a_clauses) (a_read := a_read) (a_open := a_open) (a_stack := a_stack) (a_word := a_word) (a_said := a_said) (a_planned := a_planned) (a_cameOf := a_cameOf) (a_wasSaid := a_wasSaid) (a_kept := a_kept) (a_rowNow := a_rowNow) (a_rowBest := a_rowBest) (a_hasBy := a_hasBy) (a_isFit := a_isFit) (a_cameThen := a_cameThen) (a_images := a_images) (a_imageForce := a_imageForce) (a_imageX := a_imageX) (a_isMade := a_isMade)) q_m_X12_294 mv_X12_isGreen ⟨(Nat.le_of_ble_eq_true rfl), (Nat.le_of_ble_eq_true rfl)⟩ [0, 1] rfl rfl rfl rfl rfl rfl (Nat.le_of_ble_eq_true rfl) ⟨(Nat.le_of_ble_eq_true rfl), (Nat.le_of_ble_eq_true rfl)⟩ dX12_round_1 (fun r_1 er_1 => ?_)
  subst er_1
  refine lv_if_eq (tgt := 20) hx hb dX12_round_4 (by decide) (fun _ => ?_) (fun q => absurd q (by decide))
  refine lv_iconst (v := (-1)) hx hb dX12_round_20 (by decide) ?_
  exact KP.rt F rfl rfl dX12_round_21

set_option maxHeartbeats 4000000 in
set_option maxRecDepth 100000 in
theorem m_shoot (l : Launch) (D : va_G) (cy : Nat → ClassId) (m0 a_tape a_sign a_length a_clause a_clauses a_read a_open a_stack a_word a_said a_planned a_cameOf a_wasSaid a_kept a_rowNow a_rowBest a_hasBy a_isFit a_cameThen a_images a_imageForce a_imageX a_isMade : Nat) (x0 : Int32) (x1 : Int32) : KP l yX12_shoot cX12_shoot 4 (some .int) 1 21 D (kTY cy) [.ref m0, .int x0, .int x1] [(m0, .inr (12, [.ref a_tape, .int 0, .int 0, .ref a_sign, .ref a_length, .ref a_clause, .ref a_clauses, .ref a_read, .int 0, .int 0, .int 0, .int 0, .int 0, .int 0, .int 0, .ref a_open, .int 0, .ref a_stack, .int 0, .ref a_word, .ref a_said, .int (-1), .int 0, .int (-1), .ref a_planned, .ref a_cameOf, .ref a_wasSaid, .int 0, .ref a_kept, .ref a_rowNow, .ref a_rowBest, .ref a_hasBy, .ref a_isFit, .ref a_cameThen, .long 0, .ref a_images, .ref a_imageForce, .ref a_imageX, .ref a_isMade])), (a_said, .inl (cy 0, 115, .inl (fun _ => 0)))] (fun r => r = (-1)) := by
  refine KP.of (by decide) (Nat.le_of_ble_eq_true rfl) (fun p e s m below meth c ls F hE hP hl => ?_)
  have F : kF p s m meth c cX12_shoot 4 (some .int) _ RX12 := F
  obtain ⟨hx, hb, hr, hml, hown, hG, hlk⟩ := id F
  have hl : lv_has ls 4 [(0, .ref m0), (1, .int x0), (2, .int x1)] := hl
  refine lv_aload_n hx hb dX12_shoot_0 rfl (lv_at hl 0 rfl) ?_
  refine lv_iload_n hx hb dX12_shoot_1 rfl (lv_at hl 1 rfl) ?_
  refine kcV (As := [.int x0]) (rest := []) F hE hP hl.1 (c_isArcher l D cy (m0 := m0) (x0 := x0) (a_tape := a_tape) (a_sign := a_sign) (a_length := a_length) (a_clause := a_clause) (a_clauses := a_clauses) (a_read := a_read) (a_open := a_open) (a_stack := a_stack) (a_word := a_word) (a_said := a_said) (a_planned := a_planned) (a_cameOf := a_cameOf) (a_wasSaid := a_wasSaid) (a_kept := a_kept) (a_rowNow := a_rowNow) (a_rowBest := a_rowBest) (a_hasBy := a_hasBy) (a_isFit := a_isFit) (a_cameThen := a_cameThen) (a_images := a_images) (a_imageForce := a_imageForce) (a_imageX := a_imageX) (a_isMade := a_isMade)) q_m_X12_314 mv_X12_isArcher ⟨(Nat.le_of_ble_eq_true rfl), (Nat.le_of_ble_eq_true rfl)⟩ [0, 1] rfl rfl rfl rfl rfl rfl (Nat.le_of_ble_eq_true rfl) ⟨(Nat.le_of_ble_eq_true rfl), (Nat.le_of_ble_eq_true rfl)⟩ dX12_shoot_2 (fun r_1 er_1 => ?_)
  subst er_1
  refine lv_if_eq (tgt := 24) hx hb dX12_shoot_5 (by decide) (fun _ => ?_) (fun q => absurd q (by decide))
  refine lv_iconst (v := (-1)) hx hb dX12_shoot_24 (by decide) ?_
  exact KP.rt F rfl rfl dX12_shoot_25

set_option maxHeartbeats 4000000 in
set_option maxRecDepth 100000 in
theorem m_pull (l : Launch) (D : va_G) (cy : Nat → ClassId) (m0 a_tape a_sign a_length a_clause a_clauses a_read a_open a_stack a_word a_said a_planned a_cameOf a_wasSaid a_kept a_rowNow a_rowBest a_hasBy a_isFit a_cameThen a_images a_imageForce a_imageX a_isMade : Nat) (x0 : Int32) (x1 : Int32) : KP l yX12_pull cX12_pull 4 (some .int) 1 21 D (kTY cy) [.ref m0, .int x0, .int x1] [(m0, .inr (12, [.ref a_tape, .int 0, .int 0, .ref a_sign, .ref a_length, .ref a_clause, .ref a_clauses, .ref a_read, .int 0, .int 0, .int 0, .int 0, .int 0, .int 0, .int 0, .ref a_open, .int 0, .ref a_stack, .int 0, .ref a_word, .ref a_said, .int (-1), .int 0, .int (-1), .ref a_planned, .ref a_cameOf, .ref a_wasSaid, .int 0, .ref a_kept, .ref a_rowNow, .ref a_rowBest, .ref a_hasBy, .ref a_isFit, .ref a_cameThen, .long 0, .ref a_images, .ref a_imageForce, .ref a_imageX, .ref a_isMade])), (a_said, .inl (cy 0, 115, .inl (fun _ => 0)))] (fun r => r = (-1)) := by
  refine KP.of (by decide) (Nat.le_of_ble_eq_true rfl) (fun p e s m below meth c ls F hE hP hl => ?_)
  have F : kF p s m meth c cX12_pull 4 (some .int) _ RX12 := F
  obtain ⟨hx, hb, hr, hml, hown, hG, hlk⟩ := id F
  have hl : lv_has ls 4 [(0, .ref m0), (1, .int x0), (2, .int x1)] := hl
  refine lv_aload_n hx hb dX12_pull_0 rfl (lv_at hl 0 rfl) ?_
  refine lv_iload_n hx hb dX12_pull_1 rfl (lv_at hl 1 rfl) ?_
  refine kcV (As := [.int x0]) (rest := []) F hE hP hl.1 (c_isRing l D cy (m0 := m0) (x0 := x0) (a_tape := a_tape) (a_sign := a_sign) (a_length := a_length) (a_clause := a_clause) (a_clauses := a_clauses) (a_read := a_read) (a_open := a_open) (a_stack := a_stack) (a_word := a_word) (a_said := a_said) (a_planned := a_planned) (a_cameOf := a_cameOf) (a_wasSaid := a_wasSaid) (a_kept := a_kept) (a_rowNow := a_rowNow) (a_rowBest := a_rowBest) (a_hasBy := a_hasBy) (a_isFit := a_isFit) (a_cameThen := a_cameThen) (a_images := a_images) (a_imageForce := a_imageForce) (a_imageX := a_imageX) (a_isMade := a_isMade)) q_m_X12_309 mv_X12_isRing ⟨(Nat.le_of_ble_eq_true rfl), (Nat.le_of_ble_eq_true rfl)⟩ [0, 1] rfl rfl rfl rfl rfl rfl (Nat.le_of_ble_eq_true rfl) ⟨(Nat.le_of_ble_eq_true rfl), (Nat.le_of_ble_eq_true rfl)⟩ dX12_pull_2 (fun r_1 er_1 => ?_)
  subst er_1
  refine lv_if_eq (tgt := 28) hx hb dX12_pull_5 (by decide) (fun _ => ?_) (fun q => absurd q (by decide))
  refine lv_iconst (v := (-1)) hx hb dX12_pull_28 (by decide) ?_
  exact KP.rt F rfl rfl dX12_pull_29

set_option maxHeartbeats 4000000 in
set_option maxRecDepth 100000 in
theorem m_breath (l : Launch) (D : va_G) (cy : Nat → ClassId) (m0 a_tape a_sign a_length a_clause a_clauses a_read a_open a_stack a_word a_said a_planned a_cameOf a_wasSaid a_kept a_rowNow a_rowBest a_hasBy a_isFit a_cameThen a_images a_imageForce a_imageX a_isMade : Nat) (x0 : Int32) : KP l yX12_breath cX12_breath 2 (some .int) 1 20 D (kTY cy) [.ref m0, .int x0] [(m0, .inr (12, [.ref a_tape, .int 0, .int 0, .ref a_sign, .ref a_length, .ref a_clause, .ref a_clauses, .ref a_read, .int 0, .int 0, .int 0, .int 0, .int 0, .int 0, .int 0, .ref a_open, .int 0, .ref a_stack, .int 0, .ref a_word, .ref a_said, .int (-1), .int 0, .int (-1), .ref a_planned, .ref a_cameOf, .ref a_wasSaid, .int 0, .ref a_kept, .ref a_rowNow, .ref a_rowBest, .ref a_hasBy, .ref a_isFit, .ref a_cameThen, .long 0, .ref a_images, .ref a_imageForce, .ref a_imageX, .ref a_isMade])), (a_said, .inl (cy 0, 115, .inl (fun _ => 0)))] (fun r => r = (-1)) := by
  refine KP.of (by decide) (Nat.le_of_ble_eq_true rfl) (fun p e s m below meth c ls F hE hP hl => ?_)
  have F : kF p s m meth c cX12_breath 2 (some .int) _ RX12 := F
  obtain ⟨hx, hb, hr, hml, hown, hG, hlk⟩ := id F
  have hl : lv_has ls 2 [(0, .ref m0), (1, .int x0)] := hl
  refine lv_aload_n hx hb dX12_breath_0 rfl (lv_at hl 0 rfl) ?_
  refine kcV (As := []) (rest := []) F hE hP hl.1 (c_isGreen l D cy (m0 := m0) (a_tape := a_tape) (a_sign := a_sign) (a_length := a_length) (a_clause := a_clause) (a_clauses := a_clauses) (a_read := a_read) (a_open := a_open) (a_stack := a_stack) (a_word := a_word) (a_said := a_said) (a_planned := a_planned) (a_cameOf := a_cameOf) (a_wasSaid := a_wasSaid) (a_kept := a_kept) (a_rowNow := a_rowNow) (a_rowBest := a_rowBest) (a_hasBy := a_hasBy) (a_isFit := a_isFit) (a_cameThen := a_cameThen) (a_images := a_images) (a_imageForce := a_imageForce) (a_imageX := a_imageX) (a_isMade := a_isMade)) q_m_X12_294 mv_X12_isGreen ⟨(Nat.le_of_ble_eq_true rfl), (Nat.le_of_ble_eq_true rfl)⟩ [0, 1] rfl rfl rfl rfl rfl rfl (Nat.le_of_ble_eq_true rfl) ⟨(Nat.le_of_ble_eq_true rfl), (Nat.le_of_ble_eq_true rfl)⟩ dX12_breath_1 (fun r_1 er_1 => ?_)
  subst er_1
  refine lv_if_eq (tgt := 19) hx hb dX12_breath_4 (by decide) (fun _ => ?_) (fun q => absurd q (by decide))
  refine lv_iconst (v := (-1)) hx hb dX12_breath_19 (by decide) ?_
  exact KP.rt F rfl rfl dX12_breath_20

set_option maxHeartbeats 4000000 in
set_option maxRecDepth 100000 in
theorem m_teach (l : Launch) (D : va_G) (cy : Nat → ClassId) (m0 a_tape a_sign a_length a_clause a_clauses a_read a_open a_stack a_word a_said a_planned a_cameOf a_wasSaid a_kept a_rowNow a_rowBest a_hasBy a_isFit a_cameThen a_images a_imageForce a_imageX a_isMade : Nat) (x0 : Int32) (x1 : Int32) : KP l yX12_teach cX12_teach 4 (some .int) 1 21 D (kTY cy) [.ref m0, .int x0, .int x1] [(m0, .inr (12, [.ref a_tape, .int 0, .int 0, .ref a_sign, .ref a_length, .ref a_clause, .ref a_clauses, .ref a_read, .int 0, .int 0, .int 0, .int 0, .int 0, .int 0, .int 0, .ref a_open, .int 0, .ref a_stack, .int 0, .ref a_word, .ref a_said, .int (-1), .int 0, .int (-1), .ref a_planned, .ref a_cameOf, .ref a_wasSaid, .int 0, .ref a_kept, .ref a_rowNow, .ref a_rowBest, .ref a_hasBy, .ref a_isFit, .ref a_cameThen, .long 0, .ref a_images, .ref a_imageForce, .ref a_imageX, .ref a_isMade])), (a_said, .inl (cy 0, 115, .inl (fun _ => 0)))] (fun r => r = (-1)) := by
  refine KP.of (by decide) (Nat.le_of_ble_eq_true rfl) (fun p e s m below meth c ls F hE hP hl => ?_)
  have F : kF p s m meth c cX12_teach 4 (some .int) _ RX12 := F
  obtain ⟨hx, hb, hr, hml, hown, hG, hlk⟩ := id F
  have hl : lv_has ls 4 [(0, .ref m0), (1, .int x0), (2, .int x1)] := hl
  refine lv_aload_n hx hb dX12_teach_0 rfl (lv_at hl 0 rfl) ?_
  refine lv_iload_n hx hb dX12_teach_1 rfl (lv_at hl 1 rfl) ?_
  refine kcV (As := [.int x0]) (rest := []) F hE hP hl.1 (c_isArcher l D cy (m0 := m0) (x0 := x0) (a_tape := a_tape) (a_sign := a_sign) (a_length := a_length) (a_clause := a_clause) (a_clauses := a_clauses) (a_read := a_read) (a_open := a_open) (a_stack := a_stack) (a_word := a_word) (a_said := a_said) (a_planned := a_planned) (a_cameOf := a_cameOf) (a_wasSaid := a_wasSaid) (a_kept := a_kept) (a_rowNow := a_rowNow) (a_rowBest := a_rowBest) (a_hasBy := a_hasBy) (a_isFit := a_isFit) (a_cameThen := a_cameThen) (a_images := a_images) (a_imageForce := a_imageForce) (a_imageX := a_imageX) (a_isMade := a_isMade)) q_m_X12_314 mv_X12_isArcher ⟨(Nat.le_of_ble_eq_true rfl), (Nat.le_of_ble_eq_true rfl)⟩ [0, 1] rfl rfl rfl rfl rfl rfl (Nat.le_of_ble_eq_true rfl) ⟨(Nat.le_of_ble_eq_true rfl), (Nat.le_of_ble_eq_true rfl)⟩ dX12_teach_2 (fun r_1 er_1 => ?_)
  subst er_1
  refine lv_if_eq (tgt := 29) hx hb dX12_teach_5 (by decide) (fun _ => ?_) (fun q => absurd q (by decide))
  refine lv_iconst (v := (-1)) hx hb dX12_teach_29 (by decide) ?_
  exact KP.rt F rfl rfl dX12_teach_30

set_option maxHeartbeats 4000000 in
set_option maxRecDepth 100000 in
theorem m_ahead (l : Launch) (D : va_G) (cy : Nat → ClassId) (m0 a_tape a_sign a_length a_clause a_clauses a_read a_open a_stack a_word a_said a_planned a_cameOf a_wasSaid a_kept a_rowNow a_rowBest a_hasBy a_isFit a_cameThen a_images a_imageForce a_imageX a_isMade : Nat) (x0 : Int32) (x1 : Int32) (x2 : Int32) : KP l yX12_ahead cX12_ahead 5 (some .int) 1 20 D (kTY cy) [.ref m0, .int x0, .int x1, .int x2] [(m0, .inr (12, [.ref a_tape, .int 0, .int 0, .ref a_sign, .ref a_length, .ref a_clause, .ref a_clauses, .ref a_read, .int 0, .int 0, .int 0, .int 0, .int 0, .int 0, .int 0, .ref a_open, .int 0, .ref a_stack, .int 0, .ref a_word, .ref a_said, .int (-1), .int 0, .int (-1), .ref a_planned, .ref a_cameOf, .ref a_wasSaid, .int 0, .ref a_kept, .ref a_rowNow, .ref a_rowBest, .ref a_hasBy, .ref a_isFit, .ref a_cameThen, .long 0, .ref a_images, .ref a_imageForce, .ref a_imageX, .ref a_isMade])), (a_said, .inl (cy 0, 115, .inl (fun _ => 0)))] (fun r => r = (-1)) := by
  refine KP.of (by decide) (Nat.le_of_ble_eq_true rfl) (fun p e s m below meth c ls F hE hP hl => ?_)
  have F : kF p s m meth c cX12_ahead 5 (some .int) _ RX12 := F
  obtain ⟨hx, hb, hr, hml, hown, hG, hlk⟩ := id F
  have hl : lv_has ls 5 [(0, .ref m0), (1, .int x0), (2, .int x1), (3, .int x2)] := hl
  refine lv_aload_n hx hb dX12_ahead_0 rfl (lv_at hl 0 rfl) ?_
  refine kcV (As := []) (rest := []) F hE hP hl.1 (c_isGreen l D cy (m0 := m0) (a_tape := a_tape) (a_sign := a_sign) (a_length := a_length) (a_clause := a_clause) (a_clauses := a_clauses) (a_read := a_read) (a_open := a_open) (a_stack := a_stack) (a_word := a_word) (a_said := a_said) (a_planned := a_planned) (a_cameOf := a_cameOf) (a_wasSaid := a_wasSaid) (a_kept := a_kept) (a_rowNow := a_rowNow) (a_rowBest := a_rowBest) (a_hasBy := a_hasBy) (a_isFit := a_isFit) (a_cameThen := a_cameThen) (a_images := a_images) (a_imageForce := a_imageForce) (a_imageX := a_imageX) (a_isMade := a_isMade)) q_m_X12_294 mv_X12_isGreen ⟨(Nat.le_of_ble_eq_true rfl), (Nat.le_of_ble_eq_true rfl)⟩ [0, 1] rfl rfl rfl rfl rfl rfl (Nat.le_of_ble_eq_true rfl) ⟨(Nat.le_of_ble_eq_true rfl), (Nat.le_of_ble_eq_true rfl)⟩ dX12_ahead_1 (fun r_1 er_1 => ?_)
  subst er_1
  refine lv_if_eq (tgt := 44) hx hb dX12_ahead_4 (by decide) (fun _ => ?_) (fun q => absurd q (by decide))
  refine lv_iconst (v := (-1)) hx hb dX12_ahead_44 (by decide) ?_
  exact KP.rt F rfl rfl dX12_ahead_45

set_option maxHeartbeats 4000000 in
set_option maxRecDepth 100000 in
theorem m_eased (l : Launch) (D : va_G) (cy : Nat → ClassId) (m0 a_tape a_sign a_length a_clause a_clauses a_read a_open a_stack a_word a_said a_planned a_cameOf a_wasSaid a_kept a_rowNow a_rowBest a_hasBy a_isFit a_cameThen a_images a_imageForce a_imageX a_isMade : Nat) (x0 : Int32) : KP l yX12_eased cX12_eased 2 (some .int) 1 21 D (kTY cy) [.ref m0, .int x0] [(m0, .inr (12, [.ref a_tape, .int 0, .int 0, .ref a_sign, .ref a_length, .ref a_clause, .ref a_clauses, .ref a_read, .int 0, .int 0, .int 0, .int 0, .int 0, .int 0, .int 0, .ref a_open, .int 0, .ref a_stack, .int 0, .ref a_word, .ref a_said, .int (-1), .int 0, .int (-1), .ref a_planned, .ref a_cameOf, .ref a_wasSaid, .int 0, .ref a_kept, .ref a_rowNow, .ref a_rowBest, .ref a_hasBy, .ref a_isFit, .ref a_cameThen, .long 0, .ref a_images, .ref a_imageForce, .ref a_imageX, .ref a_isMade])), (a_said, .inl (cy 0, 115, .inl (fun _ => 0)))] (fun r => r = (-1)) := by
  refine KP.of (by decide) (Nat.le_of_ble_eq_true rfl) (fun p e s m below meth c ls F hE hP hl => ?_)
  have F : kF p s m meth c cX12_eased 2 (some .int) _ RX12 := F
  obtain ⟨hx, hb, hr, hml, hown, hG, hlk⟩ := id F
  have hl : lv_has ls 2 [(0, .ref m0), (1, .int x0)] := hl
  refine lv_aload_n hx hb dX12_eased_0 rfl (lv_at hl 0 rfl) ?_
  refine lv_iload_n hx hb dX12_eased_1 rfl (lv_at hl 1 rfl) ?_
  refine kcV (As := [.int x0]) (rest := []) F hE hP hl.1 (c_isArcher l D cy (m0 := m0) (x0 := x0) (a_tape := a_tape) (a_sign := a_sign) (a_length := a_length) (a_clause := a_clause) (a_clauses := a_clauses) (a_read := a_read) (a_open := a_open) (a_stack := a_stack) (a_word := a_word) (a_said := a_said) (a_planned := a_planned) (a_cameOf := a_cameOf) (a_wasSaid := a_wasSaid) (a_kept := a_kept) (a_rowNow := a_rowNow) (a_rowBest := a_rowBest) (a_hasBy := a_hasBy) (a_isFit := a_isFit) (a_cameThen := a_cameThen) (a_images := a_images) (a_imageForce := a_imageForce) (a_imageX := a_imageX) (a_isMade := a_isMade)) q_m_X12_314 mv_X12_isArcher ⟨(Nat.le_of_ble_eq_true rfl), (Nat.le_of_ble_eq_true rfl)⟩ [0, 1] rfl rfl rfl rfl rfl rfl (Nat.le_of_ble_eq_true rfl) ⟨(Nat.le_of_ble_eq_true rfl), (Nat.le_of_ble_eq_true rfl)⟩ dX12_eased_2 (fun r_1 er_1 => ?_)
  subst er_1
  refine lv_if_eq (tgt := 16) hx hb dX12_eased_5 (by decide) (fun _ => ?_) (fun q => absurd q (by decide))
  refine lv_iconst (v := (-1)) hx hb dX12_eased_16 (by decide) ?_
  exact KP.rt F rfl rfl dX12_eased_17

set_option maxHeartbeats 4000000 in
set_option maxRecDepth 100000 in
theorem m_allEased (l : Launch) (D : va_G) (cy : Nat → ClassId) (m0 a_tape a_sign a_length a_clause a_clauses a_read a_open a_stack a_word a_said a_planned a_cameOf a_wasSaid a_kept a_rowNow a_rowBest a_hasBy a_isFit a_cameThen a_images a_imageForce a_imageX a_isMade : Nat) : KP l yX12_allEased cX12_allEased 1 (some .int) 1 20 D (kTY cy) [.ref m0] [(m0, .inr (12, [.ref a_tape, .int 0, .int 0, .ref a_sign, .ref a_length, .ref a_clause, .ref a_clauses, .ref a_read, .int 0, .int 0, .int 0, .int 0, .int 0, .int 0, .int 0, .ref a_open, .int 0, .ref a_stack, .int 0, .ref a_word, .ref a_said, .int (-1), .int 0, .int (-1), .ref a_planned, .ref a_cameOf, .ref a_wasSaid, .int 0, .ref a_kept, .ref a_rowNow, .ref a_rowBest, .ref a_hasBy, .ref a_isFit, .ref a_cameThen, .long 0, .ref a_images, .ref a_imageForce, .ref a_imageX, .ref a_isMade])), (a_said, .inl (cy 0, 115, .inl (fun _ => 0)))] (fun r => r = (-1)) := by
  refine KP.of (by decide) (Nat.le_of_ble_eq_true rfl) (fun p e s m below meth c ls F hE hP hl => ?_)
  have F : kF p s m meth c cX12_allEased 1 (some .int) _ RX12 := F
  obtain ⟨hx, hb, hr, hml, hown, hG, hlk⟩ := id F
  have hl : lv_has ls 1 [(0, .ref m0)] := hl
  refine lv_aload_n hx hb dX12_allEased_0 rfl (lv_at hl 0 rfl) ?_
  refine kcV (As := []) (rest := []) F hE hP hl.1 (c_isGreen l D cy (m0 := m0) (a_tape := a_tape) (a_sign := a_sign) (a_length := a_length) (a_clause := a_clause) (a_clauses := a_clauses) (a_read := a_read) (a_open := a_open) (a_stack := a_stack) (a_word := a_word) (a_said := a_said) (a_planned := a_planned) (a_cameOf := a_cameOf) (a_wasSaid := a_wasSaid) (a_kept := a_kept) (a_rowNow := a_rowNow) (a_rowBest := a_rowBest) (a_hasBy := a_hasBy) (a_isFit := a_isFit) (a_cameThen := a_cameThen) (a_images := a_images) (a_imageForce := a_imageForce) (a_imageX := a_imageX) (a_isMade := a_isMade)) q_m_X12_294 mv_X12_isGreen ⟨(Nat.le_of_ble_eq_true rfl), (Nat.le_of_ble_eq_true rfl)⟩ [0, 1] rfl rfl rfl rfl rfl rfl (Nat.le_of_ble_eq_true rfl) ⟨(Nat.le_of_ble_eq_true rfl), (Nat.le_of_ble_eq_true rfl)⟩ dX12_allEased_1 (fun r_1 er_1 => ?_)
  subst er_1
  refine lv_if_eq (tgt := 15) hx hb dX12_allEased_4 (by decide) (fun _ => ?_) (fun q => absurd q (by decide))
  refine lv_iconst (v := (-1)) hx hb dX12_allEased_15 (by decide) ?_
  exact KP.rt F rfl rfl dX12_allEased_16

set_option maxHeartbeats 4000000 in
set_option maxRecDepth 100000 in
theorem m_down (l : Launch) (D : va_G) (cy : Nat → ClassId) (m0 a_tape a_sign a_length a_clause a_clauses a_read a_open a_stack a_word a_said a_planned a_cameOf a_wasSaid a_kept a_rowNow a_rowBest a_hasBy a_isFit a_cameThen a_images a_imageForce a_imageX a_isMade : Nat) (x0 : Int32) (x1 : Int32) : KP l yX12_down cX12_down 4 (some .int) 1 21 D (kTY cy) [.ref m0, .int x0, .int x1] [(m0, .inr (12, [.ref a_tape, .int 0, .int 0, .ref a_sign, .ref a_length, .ref a_clause, .ref a_clauses, .ref a_read, .int 0, .int 0, .int 0, .int 0, .int 0, .int 0, .int 0, .ref a_open, .int 0, .ref a_stack, .int 0, .ref a_word, .ref a_said, .int (-1), .int 0, .int (-1), .ref a_planned, .ref a_cameOf, .ref a_wasSaid, .int 0, .ref a_kept, .ref a_rowNow, .ref a_rowBest, .ref a_hasBy, .ref a_isFit, .ref a_cameThen, .long 0, .ref a_images, .ref a_imageForce, .ref a_imageX, .ref a_isMade])), (a_said, .inl (cy 0, 115, .inl (fun _ => 0)))] (fun r => r = (-1)) := by
  refine KP.of (by decide) (Nat.le_of_ble_eq_true rfl) (fun p e s m below meth c ls F hE hP hl => ?_)
  have F : kF p s m meth c cX12_down 4 (some .int) _ RX12 := F
  obtain ⟨hx, hb, hr, hml, hown, hG, hlk⟩ := id F
  have hl : lv_has ls 4 [(0, .ref m0), (1, .int x0), (2, .int x1)] := hl
  refine lv_aload_n hx hb dX12_down_0 rfl (lv_at hl 0 rfl) ?_
  refine lv_iload_n hx hb dX12_down_1 rfl (lv_at hl 1 rfl) ?_
  refine kcV (As := [.int x0]) (rest := []) F hE hP hl.1 (c_isArcher l D cy (m0 := m0) (x0 := x0) (a_tape := a_tape) (a_sign := a_sign) (a_length := a_length) (a_clause := a_clause) (a_clauses := a_clauses) (a_read := a_read) (a_open := a_open) (a_stack := a_stack) (a_word := a_word) (a_said := a_said) (a_planned := a_planned) (a_cameOf := a_cameOf) (a_wasSaid := a_wasSaid) (a_kept := a_kept) (a_rowNow := a_rowNow) (a_rowBest := a_rowBest) (a_hasBy := a_hasBy) (a_isFit := a_isFit) (a_cameThen := a_cameThen) (a_images := a_images) (a_imageForce := a_imageForce) (a_imageX := a_imageX) (a_isMade := a_isMade)) q_m_X12_314 mv_X12_isArcher ⟨(Nat.le_of_ble_eq_true rfl), (Nat.le_of_ble_eq_true rfl)⟩ [0, 1] rfl rfl rfl rfl rfl rfl (Nat.le_of_ble_eq_true rfl) ⟨(Nat.le_of_ble_eq_true rfl), (Nat.le_of_ble_eq_true rfl)⟩ dX12_down_2 (fun r_1 er_1 => ?_)
  subst er_1
  refine lv_if_eq (tgt := 16) hx hb dX12_down_5 (by decide) (fun _ => ?_) (fun q => absurd q (by decide))
  refine lv_iconst (v := (-1)) hx hb dX12_down_16 (by decide) ?_
  exact KP.rt F rfl rfl dX12_down_17

set_option maxHeartbeats 4000000 in
set_option maxRecDepth 100000 in
theorem m_bestAim (l : Launch) (D : va_G) (cy : Nat → ClassId) (m0 a_tape a_sign a_length a_clause a_clauses a_read a_open a_stack a_word a_said a_planned a_cameOf a_wasSaid a_kept a_rowNow a_rowBest a_hasBy a_isFit a_cameThen a_images a_imageForce a_imageX a_isMade : Nat) (x0 : Int32) (x1 : Int32) : KP l yX12_bestAim cX12_bestAim 6 (some .int) 1 21 D (kTY cy) [.ref m0, .int x0, .int x1] [(m0, .inr (12, [.ref a_tape, .int 0, .int 0, .ref a_sign, .ref a_length, .ref a_clause, .ref a_clauses, .ref a_read, .int 0, .int 0, .int 0, .int 0, .int 0, .int 0, .int 0, .ref a_open, .int 0, .ref a_stack, .int 0, .ref a_word, .ref a_said, .int (-1), .int 0, .int (-1), .ref a_planned, .ref a_cameOf, .ref a_wasSaid, .int 0, .ref a_kept, .ref a_rowNow, .ref a_rowBest, .ref a_hasBy, .ref a_isFit, .ref a_cameThen, .long 0, .ref a_images, .ref a_imageForce, .ref a_imageX, .ref a_isMade])), (a_said, .inl (cy 0, 115, .inl (fun _ => 0)))] (fun r => r = (-2)) := by
  refine KP.of (by decide) (Nat.le_of_ble_eq_true rfl) (fun p e s m below meth c ls F hE hP hl => ?_)
  have F : kF p s m meth c cX12_bestAim 6 (some .int) _ RX12 := F
  obtain ⟨hx, hb, hr, hml, hown, hG, hlk⟩ := id F
  have hl : lv_has ls 6 [(0, .ref m0), (1, .int x0), (2, .int x1)] := hl
  refine lv_aload_n hx hb dX12_bestAim_0 rfl (lv_at hl 0 rfl) ?_
  refine lv_iload_n hx hb dX12_bestAim_1 rfl (lv_at hl 1 rfl) ?_
  refine kcV (As := [.int x0]) (rest := []) F hE hP hl.1 (c_isArcher l D cy (m0 := m0) (x0 := x0) (a_tape := a_tape) (a_sign := a_sign) (a_length := a_length) (a_clause := a_clause) (a_clauses := a_clauses) (a_read := a_read) (a_open := a_open) (a_stack := a_stack) (a_word := a_word) (a_said := a_said) (a_planned := a_planned) (a_cameOf := a_cameOf) (a_wasSaid := a_wasSaid) (a_kept := a_kept) (a_rowNow := a_rowNow) (a_rowBest := a_rowBest) (a_hasBy := a_hasBy) (a_isFit := a_isFit) (a_cameThen := a_cameThen) (a_images := a_images) (a_imageForce := a_imageForce) (a_imageX := a_imageX) (a_isMade := a_isMade)) q_m_X12_314 mv_X12_isArcher ⟨(Nat.le_of_ble_eq_true rfl), (Nat.le_of_ble_eq_true rfl)⟩ [0, 1] rfl rfl rfl rfl rfl rfl (Nat.le_of_ble_eq_true rfl) ⟨(Nat.le_of_ble_eq_true rfl), (Nat.le_of_ble_eq_true rfl)⟩ dX12_bestAim_2 (fun r_1 er_1 => ?_)
  subst er_1
  refine lv_if_eq (tgt := 18) hx hb dX12_bestAim_5 (by decide) (fun _ => ?_) (fun q => absurd q (by decide))
  refine lv_bipush (v := (-2)) hx hb dX12_bestAim_18 (by decide) ?_
  exact KP.rt F rfl rfl dX12_bestAim_20

set_option maxHeartbeats 4000000 in
set_option maxRecDepth 100000 in
theorem m_row (l : Launch) (D : va_G) (cy : Nat → ClassId) (m0 a_tape a_sign a_length a_clause a_clauses a_read a_open a_stack a_word a_said a_planned a_cameOf a_wasSaid a_kept a_rowNow a_rowBest a_hasBy a_isFit a_cameThen a_images a_imageForce a_imageX a_isMade : Nat) (x0 : Int32) (x1 : Int32) (x2 : Int32) : KP l yX12_row cX12_row 5 (some .int) 1 21 D (kTY cy) [.ref m0, .int x0, .int x1, .int x2] [(m0, .inr (12, [.ref a_tape, .int 0, .int 0, .ref a_sign, .ref a_length, .ref a_clause, .ref a_clauses, .ref a_read, .int 0, .int 0, .int 0, .int 0, .int 0, .int 0, .int 0, .ref a_open, .int 0, .ref a_stack, .int 0, .ref a_word, .ref a_said, .int (-1), .int 0, .int (-1), .ref a_planned, .ref a_cameOf, .ref a_wasSaid, .int 0, .ref a_kept, .ref a_rowNow, .ref a_rowBest, .ref a_hasBy, .ref a_isFit, .ref a_cameThen, .long 0, .ref a_images, .ref a_imageForce, .ref a_imageX, .ref a_isMade])), (a_said, .inl (cy 0, 115, .inl (fun _ => 0)))] (fun r => r = (-3)) := by
  refine KP.of (by decide) (Nat.le_of_ble_eq_true rfl) (fun p e s m below meth c ls F hE hP hl => ?_)
  have F : kF p s m meth c cX12_row 5 (some .int) _ RX12 := F
  obtain ⟨hx, hb, hr, hml, hown, hG, hlk⟩ := id F
  have hl : lv_has ls 5 [(0, .ref m0), (1, .int x0), (2, .int x1), (3, .int x2)] := hl
  refine lv_aload_n hx hb dX12_row_0 rfl (lv_at hl 0 rfl) ?_
  refine lv_iload_n hx hb dX12_row_1 rfl (lv_at hl 1 rfl) ?_
  refine kcV (As := [.int x0]) (rest := []) F hE hP hl.1 (c_isArcher l D cy (m0 := m0) (x0 := x0) (a_tape := a_tape) (a_sign := a_sign) (a_length := a_length) (a_clause := a_clause) (a_clauses := a_clauses) (a_read := a_read) (a_open := a_open) (a_stack := a_stack) (a_word := a_word) (a_said := a_said) (a_planned := a_planned) (a_cameOf := a_cameOf) (a_wasSaid := a_wasSaid) (a_kept := a_kept) (a_rowNow := a_rowNow) (a_rowBest := a_rowBest) (a_hasBy := a_hasBy) (a_isFit := a_isFit) (a_cameThen := a_cameThen) (a_images := a_images) (a_imageForce := a_imageForce) (a_imageX := a_imageX) (a_isMade := a_isMade)) q_m_X12_314 mv_X12_isArcher ⟨(Nat.le_of_ble_eq_true rfl), (Nat.le_of_ble_eq_true rfl)⟩ [0, 1] rfl rfl rfl rfl rfl rfl (Nat.le_of_ble_eq_true rfl) ⟨(Nat.le_of_ble_eq_true rfl), (Nat.le_of_ble_eq_true rfl)⟩ dX12_row_2 (fun r_1 er_1 => ?_)
  subst er_1
  refine lv_if_eq (tgt := 40) hx hb dX12_row_5 (by decide) (fun _ => ?_) (fun q => absurd q (by decide))
  refine lv_bipush (v := (-3)) hx hb dX12_row_40 (by decide) ?_
  exact KP.rt F rfl rfl dX12_row_42

set_option maxHeartbeats 4000000 in
set_option maxRecDepth 100000 in
theorem m_hold (l : Launch) (D : va_G) (cy : Nat → ClassId) (m0 a_tape a_sign a_length a_clause a_clauses a_read a_open a_stack a_word a_said a_planned a_cameOf a_wasSaid a_kept a_rowNow a_rowBest a_hasBy a_isFit a_cameThen a_images a_imageForce a_imageX a_isMade : Nat) (x0 : Int32) : KP l yX12_hold cX12_hold 4 (some .int) 1 21 D (kTY cy) [.ref m0, .int x0] [(m0, .inr (12, [.ref a_tape, .int 0, .int 0, .ref a_sign, .ref a_length, .ref a_clause, .ref a_clauses, .ref a_read, .int 0, .int 0, .int 0, .int 0, .int 0, .int 0, .int 0, .ref a_open, .int 0, .ref a_stack, .int 0, .ref a_word, .ref a_said, .int (-1), .int 0, .int (-1), .ref a_planned, .ref a_cameOf, .ref a_wasSaid, .int 0, .ref a_kept, .ref a_rowNow, .ref a_rowBest, .ref a_hasBy, .ref a_isFit, .ref a_cameThen, .long 0, .ref a_images, .ref a_imageForce, .ref a_imageX, .ref a_isMade])), (a_said, .inl (cy 0, 115, .inl (fun _ => 0)))] (fun r => r = (-1)) := by
  refine KP.of (by decide) (Nat.le_of_ble_eq_true rfl) (fun p e s m below meth c ls F hE hP hl => ?_)
  have F : kF p s m meth c cX12_hold 4 (some .int) _ RX12 := F
  obtain ⟨hx, hb, hr, hml, hown, hG, hlk⟩ := id F
  have hl : lv_has ls 4 [(0, .ref m0), (1, .int x0)] := hl
  refine lv_aload_n hx hb dX12_hold_0 rfl (lv_at hl 0 rfl) ?_
  refine lv_iload_n hx hb dX12_hold_1 rfl (lv_at hl 1 rfl) ?_
  refine kcV (As := [.int x0]) (rest := []) F hE hP hl.1 (c_isArcher l D cy (m0 := m0) (x0 := x0) (a_tape := a_tape) (a_sign := a_sign) (a_length := a_length) (a_clause := a_clause) (a_clauses := a_clauses) (a_read := a_read) (a_open := a_open) (a_stack := a_stack) (a_word := a_word) (a_said := a_said) (a_planned := a_planned) (a_cameOf := a_cameOf) (a_wasSaid := a_wasSaid) (a_kept := a_kept) (a_rowNow := a_rowNow) (a_rowBest := a_rowBest) (a_hasBy := a_hasBy) (a_isFit := a_isFit) (a_cameThen := a_cameThen) (a_images := a_images) (a_imageForce := a_imageForce) (a_imageX := a_imageX) (a_isMade := a_isMade)) q_m_X12_314 mv_X12_isArcher ⟨(Nat.le_of_ble_eq_true rfl), (Nat.le_of_ble_eq_true rfl)⟩ [0, 1] rfl rfl rfl rfl rfl rfl (Nat.le_of_ble_eq_true rfl) ⟨(Nat.le_of_ble_eq_true rfl), (Nat.le_of_ble_eq_true rfl)⟩ dX12_hold_2 (fun r_1 er_1 => ?_)
  subst er_1
  refine lv_if_ne (tgt := 10) hx hb dX12_hold_5 (by decide) (fun q => absurd q (by decide)) (fun _ => ?_)
  refine lv_iconst (v := (-1)) hx hb dX12_hold_8 (by decide) ?_
  exact KP.rt F rfl rfl dX12_hold_9

set_option maxHeartbeats 4000000 in
set_option maxRecDepth 100000 in
theorem m_leastSkill (l : Launch) (D : va_G) (cy : Nat → ClassId) (m0 a_tape a_sign a_length a_clause a_clauses a_read a_open a_stack a_word a_said a_planned a_cameOf a_wasSaid a_kept a_rowNow a_rowBest a_hasBy a_isFit a_cameThen a_images a_imageForce a_imageX a_isMade : Nat) (x0 : Int32) (x1 : Int32) : KP l yX12_leastSkill cX12_leastSkill 5 (some .int) 1 21 D (kTY cy) [.ref m0, .int x0, .int x1] [(m0, .inr (12, [.ref a_tape, .int 0, .int 0, .ref a_sign, .ref a_length, .ref a_clause, .ref a_clauses, .ref a_read, .int 0, .int 0, .int 0, .int 0, .int 0, .int 0, .int 0, .ref a_open, .int 0, .ref a_stack, .int 0, .ref a_word, .ref a_said, .int (-1), .int 0, .int (-1), .ref a_planned, .ref a_cameOf, .ref a_wasSaid, .int 0, .ref a_kept, .ref a_rowNow, .ref a_rowBest, .ref a_hasBy, .ref a_isFit, .ref a_cameThen, .long 0, .ref a_images, .ref a_imageForce, .ref a_imageX, .ref a_isMade])), (a_said, .inl (cy 0, 115, .inl (fun _ => 0)))] (fun r => r = (-1)) := by
  refine KP.of (by decide) (Nat.le_of_ble_eq_true rfl) (fun p e s m below meth c ls F hE hP hl => ?_)
  have F : kF p s m meth c cX12_leastSkill 5 (some .int) _ RX12 := F
  obtain ⟨hx, hb, hr, hml, hown, hG, hlk⟩ := id F
  have hl : lv_has ls 5 [(0, .ref m0), (1, .int x0), (2, .int x1)] := hl
  refine lv_aload_n hx hb dX12_leastSkill_0 rfl (lv_at hl 0 rfl) ?_
  refine lv_iload_n hx hb dX12_leastSkill_1 rfl (lv_at hl 1 rfl) ?_
  refine kcV (As := [.int x0]) (rest := []) F hE hP hl.1 (c_isArcher l D cy (m0 := m0) (x0 := x0) (a_tape := a_tape) (a_sign := a_sign) (a_length := a_length) (a_clause := a_clause) (a_clauses := a_clauses) (a_read := a_read) (a_open := a_open) (a_stack := a_stack) (a_word := a_word) (a_said := a_said) (a_planned := a_planned) (a_cameOf := a_cameOf) (a_wasSaid := a_wasSaid) (a_kept := a_kept) (a_rowNow := a_rowNow) (a_rowBest := a_rowBest) (a_hasBy := a_hasBy) (a_isFit := a_isFit) (a_cameThen := a_cameThen) (a_images := a_images) (a_imageForce := a_imageForce) (a_imageX := a_imageX) (a_isMade := a_isMade)) q_m_X12_314 mv_X12_isArcher ⟨(Nat.le_of_ble_eq_true rfl), (Nat.le_of_ble_eq_true rfl)⟩ [0, 1] rfl rfl rfl rfl rfl rfl (Nat.le_of_ble_eq_true rfl) ⟨(Nat.le_of_ble_eq_true rfl), (Nat.le_of_ble_eq_true rfl)⟩ dX12_leastSkill_2 (fun r_1 er_1 => ?_)
  subst er_1
  refine lv_if_eq (tgt := 20) hx hb dX12_leastSkill_5 (by decide) (fun _ => ?_) (fun q => absurd q (by decide))
  refine lv_iconst (v := (-1)) hx hb dX12_leastSkill_20 (by decide) ?_
  exact KP.rt F rfl rfl dX12_leastSkill_21

set_option maxHeartbeats 4000000 in
set_option maxRecDepth 100000 in
theorem m_set (l : Launch) (D : va_G) (cy : Nat → ClassId) (m0 a_tape a_sign a_length a_clause a_clauses a_read a_open a_stack a_word a_said a_planned a_cameOf a_wasSaid a_kept a_rowNow a_rowBest a_hasBy a_isFit a_cameThen a_images a_imageForce a_imageX a_isMade : Nat) (x0 : Int32) (x1 : Int32) (x2 : Int32) : KP l yX12_set cX12_set 8 (some .int) 1 21 D (kTY cy) [.ref m0, .int x0, .int x1, .int x2] [(m0, .inr (12, [.ref a_tape, .int 0, .int 0, .ref a_sign, .ref a_length, .ref a_clause, .ref a_clauses, .ref a_read, .int 0, .int 0, .int 0, .int 0, .int 0, .int 0, .int 0, .ref a_open, .int 0, .ref a_stack, .int 0, .ref a_word, .ref a_said, .int (-1), .int 0, .int (-1), .ref a_planned, .ref a_cameOf, .ref a_wasSaid, .int 0, .ref a_kept, .ref a_rowNow, .ref a_rowBest, .ref a_hasBy, .ref a_isFit, .ref a_cameThen, .long 0, .ref a_images, .ref a_imageForce, .ref a_imageX, .ref a_isMade])), (a_said, .inl (cy 0, 115, .inl (fun _ => 0)))] (fun r => r = (-1)) := by
  refine KP.of (by decide) (Nat.le_of_ble_eq_true rfl) (fun p e s m below meth c ls F hE hP hl => ?_)
  have F : kF p s m meth c cX12_set 8 (some .int) _ RX12 := F
  obtain ⟨hx, hb, hr, hml, hown, hG, hlk⟩ := id F
  have hl : lv_has ls 8 [(0, .ref m0), (1, .int x0), (2, .int x1), (3, .int x2)] := hl
  refine lv_aload_n hx hb dX12_set_0 rfl (lv_at hl 0 rfl) ?_
  refine lv_iload_n hx hb dX12_set_1 rfl (lv_at hl 1 rfl) ?_
  refine kcV (As := [.int x0]) (rest := []) F hE hP hl.1 (c_isRing l D cy (m0 := m0) (x0 := x0) (a_tape := a_tape) (a_sign := a_sign) (a_length := a_length) (a_clause := a_clause) (a_clauses := a_clauses) (a_read := a_read) (a_open := a_open) (a_stack := a_stack) (a_word := a_word) (a_said := a_said) (a_planned := a_planned) (a_cameOf := a_cameOf) (a_wasSaid := a_wasSaid) (a_kept := a_kept) (a_rowNow := a_rowNow) (a_rowBest := a_rowBest) (a_hasBy := a_hasBy) (a_isFit := a_isFit) (a_cameThen := a_cameThen) (a_images := a_images) (a_imageForce := a_imageForce) (a_imageX := a_imageX) (a_isMade := a_isMade)) q_m_X12_309 mv_X12_isRing ⟨(Nat.le_of_ble_eq_true rfl), (Nat.le_of_ble_eq_true rfl)⟩ [0, 1] rfl rfl rfl rfl rfl rfl (Nat.le_of_ble_eq_true rfl) ⟨(Nat.le_of_ble_eq_true rfl), (Nat.le_of_ble_eq_true rfl)⟩ dX12_set_2 (fun r_1 er_1 => ?_)
  subst er_1
  refine lv_if_eq (tgt := 30) hx hb dX12_set_5 (by decide) (fun _ => ?_) (fun q => absurd q (by decide))
  refine lv_iconst (v := (-1)) hx hb dX12_set_30 (by decide) ?_
  exact KP.rt F rfl rfl dX12_set_31

set_option maxHeartbeats 4000000 in
set_option maxRecDepth 100000 in
theorem m_given (l : Launch) (D : va_G) (cy : Nat → ClassId) (m0 a_tape a_sign a_length a_clause a_clauses a_read a_open a_stack a_word a_said a_planned a_cameOf a_wasSaid a_kept a_rowNow a_rowBest a_hasBy a_isFit a_cameThen a_images a_imageForce a_imageX a_isMade : Nat) (x0 : Int32) (x1 : Int32) : KP l yX12_given cX12_given 7 (some .int) 1 20 D (kTY cy) [.ref m0, .int x0, .int x1] [(m0, .inr (12, [.ref a_tape, .int 0, .int 0, .ref a_sign, .ref a_length, .ref a_clause, .ref a_clauses, .ref a_read, .int 0, .int 0, .int 0, .int 0, .int 0, .int 0, .int 0, .ref a_open, .int 0, .ref a_stack, .int 0, .ref a_word, .ref a_said, .int (-1), .int 0, .int (-1), .ref a_planned, .ref a_cameOf, .ref a_wasSaid, .int 0, .ref a_kept, .ref a_rowNow, .ref a_rowBest, .ref a_hasBy, .ref a_isFit, .ref a_cameThen, .long 0, .ref a_images, .ref a_imageForce, .ref a_imageX, .ref a_isMade])), (a_said, .inl (cy 0, 115, .inl (fun _ => 0)))] (fun r => r = (-2)) := by
  refine KP.of (by decide) (Nat.le_of_ble_eq_true rfl) (fun p e s m below meth c ls F hE hP hl => ?_)
  have F : kF p s m meth c cX12_given 7 (some .int) _ RX12 := F
  obtain ⟨hx, hb, hr, hml, hown, hG, hlk⟩ := id F
  have hl : lv_has ls 7 [(0, .ref m0), (1, .int x0), (2, .int x1)] := hl
  refine lv_aload_n hx hb dX12_given_0 rfl (lv_at hl 0 rfl) ?_
  refine kcV (As := []) (rest := []) F hE hP hl.1 (c_isGreen l D cy (m0 := m0) (a_tape := a_tape) (a_sign := a_sign) (a_length := a_length) (a_clause := a_clause) (a_clauses := a_clauses) (a_read := a_read) (a_open := a_open) (a_stack := a_stack) (a_word := a_word) (a_said := a_said) (a_planned := a_planned) (a_cameOf := a_cameOf) (a_wasSaid := a_wasSaid) (a_kept := a_kept) (a_rowNow := a_rowNow) (a_rowBest := a_rowBest) (a_hasBy := a_hasBy) (a_isFit := a_isFit) (a_cameThen := a_cameThen) (a_images := a_images) (a_imageForce := a_imageForce) (a_imageX := a_imageX) (a_isMade := a_isMade)) q_m_X12_294 mv_X12_isGreen ⟨(Nat.le_of_ble_eq_true rfl), (Nat.le_of_ble_eq_true rfl)⟩ [0, 1] rfl rfl rfl rfl rfl rfl (Nat.le_of_ble_eq_true rfl) ⟨(Nat.le_of_ble_eq_true rfl), (Nat.le_of_ble_eq_true rfl)⟩ dX12_given_1 (fun r_1 er_1 => ?_)
  subst er_1
  refine lv_if_eq (tgt := 29) hx hb dX12_given_4 (by decide) (fun _ => ?_) (fun q => absurd q (by decide))
  refine lv_bipush (v := (-2)) hx hb dX12_given_29 (by decide) ?_
  exact KP.rt F rfl rfl dX12_given_31

set_option maxHeartbeats 4000000 in
set_option maxRecDepth 100000 in
theorem m_rests (l : Launch) (D : va_G) (cy : Nat → ClassId) (m0 a_tape a_sign a_length a_clause a_clauses a_read a_open a_stack a_word a_said a_planned a_cameOf a_wasSaid a_kept a_rowNow a_rowBest a_hasBy a_isFit a_cameThen a_images a_imageForce a_imageX a_isMade : Nat) (x0 : Int32) (x1 : Int32) (x2 : Int32) (x3 : Int32) : KP l yX12_rests cX12_rests 9 (some .int) 1 21 D (kTY cy) [.ref m0, .int x0, .int x1, .int x2, .int x3] [(m0, .inr (12, [.ref a_tape, .int 0, .int 0, .ref a_sign, .ref a_length, .ref a_clause, .ref a_clauses, .ref a_read, .int 0, .int 0, .int 0, .int 0, .int 0, .int 0, .int 0, .ref a_open, .int 0, .ref a_stack, .int 0, .ref a_word, .ref a_said, .int (-1), .int 0, .int (-1), .ref a_planned, .ref a_cameOf, .ref a_wasSaid, .int 0, .ref a_kept, .ref a_rowNow, .ref a_rowBest, .ref a_hasBy, .ref a_isFit, .ref a_cameThen, .long 0, .ref a_images, .ref a_imageForce, .ref a_imageX, .ref a_isMade])), (a_said, .inl (cy 0, 115, .inl (fun _ => 0)))] (fun r => r = (-1)) := by
  refine KP.of (by decide) (Nat.le_of_ble_eq_true rfl) (fun p e s m below meth c ls F hE hP hl => ?_)
  have F : kF p s m meth c cX12_rests 9 (some .int) _ RX12 := F
  obtain ⟨hx, hb, hr, hml, hown, hG, hlk⟩ := id F
  have hl : lv_has ls 9 [(0, .ref m0), (1, .int x0), (2, .int x1), (3, .int x2), (4, .int x3)] := hl
  refine lv_aload_n hx hb dX12_rests_0 rfl (lv_at hl 0 rfl) ?_
  refine lv_iload_n hx hb dX12_rests_1 rfl (lv_at hl 1 rfl) ?_
  refine kcV (As := [.int x0]) (rest := []) F hE hP hl.1 (c_isArcher l D cy (m0 := m0) (x0 := x0) (a_tape := a_tape) (a_sign := a_sign) (a_length := a_length) (a_clause := a_clause) (a_clauses := a_clauses) (a_read := a_read) (a_open := a_open) (a_stack := a_stack) (a_word := a_word) (a_said := a_said) (a_planned := a_planned) (a_cameOf := a_cameOf) (a_wasSaid := a_wasSaid) (a_kept := a_kept) (a_rowNow := a_rowNow) (a_rowBest := a_rowBest) (a_hasBy := a_hasBy) (a_isFit := a_isFit) (a_cameThen := a_cameThen) (a_images := a_images) (a_imageForce := a_imageForce) (a_imageX := a_imageX) (a_isMade := a_isMade)) q_m_X12_314 mv_X12_isArcher ⟨(Nat.le_of_ble_eq_true rfl), (Nat.le_of_ble_eq_true rfl)⟩ [0, 1] rfl rfl rfl rfl rfl rfl (Nat.le_of_ble_eq_true rfl) ⟨(Nat.le_of_ble_eq_true rfl), (Nat.le_of_ble_eq_true rfl)⟩ dX12_rests_2 (fun r_1 er_1 => ?_)
  subst er_1
  refine lv_if_eq (tgt := 46) hx hb dX12_rests_5 (by decide) (fun _ => ?_) (fun q => absurd q (by decide))
  refine lv_iconst (v := (-1)) hx hb dX12_rests_46 (by decide) ?_
  exact KP.rt F rfl rfl dX12_rests_47

set_option maxHeartbeats 4000000 in
set_option maxRecDepth 100000 in
theorem m_pence (l : Launch) (D : va_G) (cy : Nat → ClassId) (m0 a_tape a_sign a_length a_clause a_clauses a_read a_open a_stack a_word a_said a_planned a_cameOf a_wasSaid a_kept a_rowNow a_rowBest a_hasBy a_isFit a_cameThen a_images a_imageForce a_imageX a_isMade : Nat) (x0 : Int32) (x1 : Int32) : KP l yX12_pence cX12_pence 13 (some .int) 1 21 D (kTY cy) [.ref m0, .int x0, .int x1] [(m0, .inr (12, [.ref a_tape, .int 0, .int 0, .ref a_sign, .ref a_length, .ref a_clause, .ref a_clauses, .ref a_read, .int 0, .int 0, .int 0, .int 0, .int 0, .int 0, .int 0, .ref a_open, .int 0, .ref a_stack, .int 0, .ref a_word, .ref a_said, .int (-1), .int 0, .int (-1), .ref a_planned, .ref a_cameOf, .ref a_wasSaid, .int 0, .ref a_kept, .ref a_rowNow, .ref a_rowBest, .ref a_hasBy, .ref a_isFit, .ref a_cameThen, .long 0, .ref a_images, .ref a_imageForce, .ref a_imageX, .ref a_isMade])), (a_said, .inl (cy 0, 115, .inl (fun _ => 0)))] (fun r => r = (-1)) := by
  refine KP.of (by decide) (Nat.le_of_ble_eq_true rfl) (fun p e s m below meth c ls F hE hP hl => ?_)
  have F : kF p s m meth c cX12_pence 13 (some .int) _ RX12 := F
  obtain ⟨hx, hb, hr, hml, hown, hG, hlk⟩ := id F
  have hl : lv_has ls 13 [(0, .ref m0), (1, .int x0), (2, .int x1)] := hl
  refine lv_aload_n hx hb dX12_pence_0 rfl (lv_at hl 0 rfl) ?_
  refine lv_iload_n hx hb dX12_pence_1 rfl (lv_at hl 2 rfl) ?_
  refine kcV (As := [.int x1]) (rest := []) F hE hP hl.1 (c_isRing l D cy (m0 := m0) (x0 := x1) (a_tape := a_tape) (a_sign := a_sign) (a_length := a_length) (a_clause := a_clause) (a_clauses := a_clauses) (a_read := a_read) (a_open := a_open) (a_stack := a_stack) (a_word := a_word) (a_said := a_said) (a_planned := a_planned) (a_cameOf := a_cameOf) (a_wasSaid := a_wasSaid) (a_kept := a_kept) (a_rowNow := a_rowNow) (a_rowBest := a_rowBest) (a_hasBy := a_hasBy) (a_isFit := a_isFit) (a_cameThen := a_cameThen) (a_images := a_images) (a_imageForce := a_imageForce) (a_imageX := a_imageX) (a_isMade := a_isMade)) q_m_X12_309 mv_X12_isRing ⟨(Nat.le_of_ble_eq_true rfl), (Nat.le_of_ble_eq_true rfl)⟩ [0, 1] rfl rfl rfl rfl rfl rfl (Nat.le_of_ble_eq_true rfl) ⟨(Nat.le_of_ble_eq_true rfl), (Nat.le_of_ble_eq_true rfl)⟩ dX12_pence_2 (fun r_1 er_1 => ?_)
  subst er_1
  refine lv_if_eq (tgt := 20) hx hb dX12_pence_5 (by decide) (fun _ => ?_) (fun q => absurd q (by decide))
  refine lv_iconst (v := (-1)) hx hb dX12_pence_20 (by decide) ?_
  exact KP.rt F rfl rfl dX12_pence_21

set_option maxHeartbeats 4000000 in
set_option maxRecDepth 100000 in
theorem m_skilled (l : Launch) (D : va_G) (cy : Nat → ClassId) (m0 a_tape a_sign a_length a_clause a_clauses a_read a_open a_stack a_word a_said a_planned a_cameOf a_wasSaid a_kept a_rowNow a_rowBest a_hasBy a_isFit a_cameThen a_images a_imageForce a_imageX a_isMade : Nat) (x0 : Int32) : KP l yX12_skilled cX12_skilled 2 (some .int) 1 21 D (kTY cy) [.ref m0, .int x0] [(m0, .inr (12, [.ref a_tape, .int 0, .int 0, .ref a_sign, .ref a_length, .ref a_clause, .ref a_clauses, .ref a_read, .int 0, .int 0, .int 0, .int 0, .int 0, .int 0, .int 0, .ref a_open, .int 0, .ref a_stack, .int 0, .ref a_word, .ref a_said, .int (-1), .int 0, .int (-1), .ref a_planned, .ref a_cameOf, .ref a_wasSaid, .int 0, .ref a_kept, .ref a_rowNow, .ref a_rowBest, .ref a_hasBy, .ref a_isFit, .ref a_cameThen, .long 0, .ref a_images, .ref a_imageForce, .ref a_imageX, .ref a_isMade])), (a_said, .inl (cy 0, 115, .inl (fun _ => 0)))] (fun r => r = (-1)) := by
  refine KP.of (by decide) (Nat.le_of_ble_eq_true rfl) (fun p e s m below meth c ls F hE hP hl => ?_)
  have F : kF p s m meth c cX12_skilled 2 (some .int) _ RX12 := F
  obtain ⟨hx, hb, hr, hml, hown, hG, hlk⟩ := id F
  have hl : lv_has ls 2 [(0, .ref m0), (1, .int x0)] := hl
  refine lv_aload_n hx hb dX12_skilled_0 rfl (lv_at hl 0 rfl) ?_
  refine lv_iload_n hx hb dX12_skilled_1 rfl (lv_at hl 1 rfl) ?_
  refine kcV (As := [.int x0]) (rest := []) F hE hP hl.1 (c_isArcher l D cy (m0 := m0) (x0 := x0) (a_tape := a_tape) (a_sign := a_sign) (a_length := a_length) (a_clause := a_clause) (a_clauses := a_clauses) (a_read := a_read) (a_open := a_open) (a_stack := a_stack) (a_word := a_word) (a_said := a_said) (a_planned := a_planned) (a_cameOf := a_cameOf) (a_wasSaid := a_wasSaid) (a_kept := a_kept) (a_rowNow := a_rowNow) (a_rowBest := a_rowBest) (a_hasBy := a_hasBy) (a_isFit := a_isFit) (a_cameThen := a_cameThen) (a_images := a_images) (a_imageForce := a_imageForce) (a_imageX := a_imageX) (a_isMade := a_isMade)) q_m_X12_314 mv_X12_isArcher ⟨(Nat.le_of_ble_eq_true rfl), (Nat.le_of_ble_eq_true rfl)⟩ [0, 1] rfl rfl rfl rfl rfl rfl (Nat.le_of_ble_eq_true rfl) ⟨(Nat.le_of_ble_eq_true rfl), (Nat.le_of_ble_eq_true rfl)⟩ dX12_skilled_2 (fun r_1 er_1 => ?_)
  subst er_1
  refine lv_if_eq (tgt := 24) hx hb dX12_skilled_5 (by decide) (fun _ => ?_) (fun q => absurd q (by decide))
  refine lv_iconst (v := (-1)) hx hb dX12_skilled_24 (by decide) ?_
  exact KP.rt F rfl rfl dX12_skilled_25

set_option maxHeartbeats 4000000 in
set_option maxRecDepth 100000 in
theorem m_ails (l : Launch) (D : va_G) (cy : Nat → ClassId) (m0 a_tape a_sign a_length a_clause a_clauses a_read a_open a_stack a_word a_said a_planned a_cameOf a_wasSaid a_kept a_rowNow a_rowBest a_hasBy a_isFit a_cameThen a_images a_imageForce a_imageX a_isMade : Nat) (x0 : Int32) : KP l yX12_ails cX12_ails 2 (some .int) 1 21 D (kTY cy) [.ref m0, .int x0] [(m0, .inr (12, [.ref a_tape, .int 0, .int 0, .ref a_sign, .ref a_length, .ref a_clause, .ref a_clauses, .ref a_read, .int 0, .int 0, .int 0, .int 0, .int 0, .int 0, .int 0, .ref a_open, .int 0, .ref a_stack, .int 0, .ref a_word, .ref a_said, .int (-1), .int 0, .int (-1), .ref a_planned, .ref a_cameOf, .ref a_wasSaid, .int 0, .ref a_kept, .ref a_rowNow, .ref a_rowBest, .ref a_hasBy, .ref a_isFit, .ref a_cameThen, .long 0, .ref a_images, .ref a_imageForce, .ref a_imageX, .ref a_isMade])), (a_said, .inl (cy 0, 115, .inl (fun _ => 0)))] (fun r => r = (-1)) := by
  refine KP.of (by decide) (Nat.le_of_ble_eq_true rfl) (fun p e s m below meth c ls F hE hP hl => ?_)
  have F : kF p s m meth c cX12_ails 2 (some .int) _ RX12 := F
  obtain ⟨hx, hb, hr, hml, hown, hG, hlk⟩ := id F
  have hl : lv_has ls 2 [(0, .ref m0), (1, .int x0)] := hl
  refine lv_aload_n hx hb dX12_ails_0 rfl (lv_at hl 0 rfl) ?_
  refine lv_iload_n hx hb dX12_ails_1 rfl (lv_at hl 1 rfl) ?_
  refine kcV (As := [.int x0]) (rest := []) F hE hP hl.1 (c_isArcher l D cy (m0 := m0) (x0 := x0) (a_tape := a_tape) (a_sign := a_sign) (a_length := a_length) (a_clause := a_clause) (a_clauses := a_clauses) (a_read := a_read) (a_open := a_open) (a_stack := a_stack) (a_word := a_word) (a_said := a_said) (a_planned := a_planned) (a_cameOf := a_cameOf) (a_wasSaid := a_wasSaid) (a_kept := a_kept) (a_rowNow := a_rowNow) (a_rowBest := a_rowBest) (a_hasBy := a_hasBy) (a_isFit := a_isFit) (a_cameThen := a_cameThen) (a_images := a_images) (a_imageForce := a_imageForce) (a_imageX := a_imageX) (a_isMade := a_isMade)) q_m_X12_314 mv_X12_isArcher ⟨(Nat.le_of_ble_eq_true rfl), (Nat.le_of_ble_eq_true rfl)⟩ [0, 1] rfl rfl rfl rfl rfl rfl (Nat.le_of_ble_eq_true rfl) ⟨(Nat.le_of_ble_eq_true rfl), (Nat.le_of_ble_eq_true rfl)⟩ dX12_ails_2 (fun r_1 er_1 => ?_)
  subst er_1
  refine lv_if_eq (tgt := 28) hx hb dX12_ails_5 (by decide) (fun _ => ?_) (fun q => absurd q (by decide))
  refine lv_iconst (v := (-1)) hx hb dX12_ails_28 (by decide) ?_
  exact KP.rt F rfl rfl dX12_ails_29

set_option maxHeartbeats 4000000 in
set_option maxRecDepth 100000 in
theorem m_ruled (l : Launch) (D : va_G) (cy : Nat → ClassId) (m0 a_tape a_sign a_length a_clause a_clauses a_read a_open a_stack a_word a_said a_planned a_cameOf a_wasSaid a_kept a_rowNow a_rowBest a_hasBy a_isFit a_cameThen a_images a_imageForce a_imageX a_isMade : Nat) (x0 : Int32) : KP l yX12_ruled cX12_ruled 5 (some .int) 1 20 D (kTY cy) [.ref m0, .int x0] [(m0, .inr (12, [.ref a_tape, .int 0, .int 0, .ref a_sign, .ref a_length, .ref a_clause, .ref a_clauses, .ref a_read, .int 0, .int 0, .int 0, .int 0, .int 0, .int 0, .int 0, .ref a_open, .int 0, .ref a_stack, .int 0, .ref a_word, .ref a_said, .int (-1), .int 0, .int (-1), .ref a_planned, .ref a_cameOf, .ref a_wasSaid, .int 0, .ref a_kept, .ref a_rowNow, .ref a_rowBest, .ref a_hasBy, .ref a_isFit, .ref a_cameThen, .long 0, .ref a_images, .ref a_imageForce, .ref a_imageX, .ref a_isMade])), (a_said, .inl (cy 0, 115, .inl (fun _ => 0)))] (fun r => r = (-3)) := by
  refine KP.of (by decide) (Nat.le_of_ble_eq_true rfl) (fun p e s m below meth c ls F hE hP hl => ?_)
  have F : kF p s m meth c cX12_ruled 5 (some .int) _ RX12 := F
  obtain ⟨hx, hb, hr, hml, hown, hG, hlk⟩ := id F
  have hl : lv_has ls 5 [(0, .ref m0), (1, .int x0)] := hl
  refine lv_aload_n hx hb dX12_ruled_0 rfl (lv_at hl 0 rfl) ?_
  refine kcV (As := []) (rest := []) F hE hP hl.1 (c_isGreen l D cy (m0 := m0) (a_tape := a_tape) (a_sign := a_sign) (a_length := a_length) (a_clause := a_clause) (a_clauses := a_clauses) (a_read := a_read) (a_open := a_open) (a_stack := a_stack) (a_word := a_word) (a_said := a_said) (a_planned := a_planned) (a_cameOf := a_cameOf) (a_wasSaid := a_wasSaid) (a_kept := a_kept) (a_rowNow := a_rowNow) (a_rowBest := a_rowBest) (a_hasBy := a_hasBy) (a_isFit := a_isFit) (a_cameThen := a_cameThen) (a_images := a_images) (a_imageForce := a_imageForce) (a_imageX := a_imageX) (a_isMade := a_isMade)) q_m_X12_294 mv_X12_isGreen ⟨(Nat.le_of_ble_eq_true rfl), (Nat.le_of_ble_eq_true rfl)⟩ [0, 1] rfl rfl rfl rfl rfl rfl (Nat.le_of_ble_eq_true rfl) ⟨(Nat.le_of_ble_eq_true rfl), (Nat.le_of_ble_eq_true rfl)⟩ dX12_ruled_1 (fun r_1 er_1 => ?_)
  subst er_1
  refine lv_if_eq (tgt := 17) hx hb dX12_ruled_4 (by decide) (fun _ => ?_) (fun q => absurd q (by decide))
  refine lv_bipush (v := (-3)) hx hb dX12_ruled_17 (by decide) ?_
  exact KP.rt F rfl rfl dX12_ruled_19

set_option maxHeartbeats 4000000 in
set_option maxRecDepth 100000 in
theorem m_look (l : Launch) (D : va_G) (cy : Nat → ClassId) (m0 a_tape a_sign a_length a_clause a_clauses a_read a_open a_stack a_word a_said a_planned a_cameOf a_wasSaid a_kept a_rowNow a_rowBest a_hasBy a_isFit a_cameThen a_images a_imageForce a_imageX a_isMade : Nat) (x0 : Int32) (x1 : Int32) : KP l yX12_look cX12_look 7 (some .int) 1 20 D (kTY cy) [.ref m0, .int x0, .int x1] [(m0, .inr (12, [.ref a_tape, .int 0, .int 0, .ref a_sign, .ref a_length, .ref a_clause, .ref a_clauses, .ref a_read, .int 0, .int 0, .int 0, .int 0, .int 0, .int 0, .int 0, .ref a_open, .int 0, .ref a_stack, .int 0, .ref a_word, .ref a_said, .int (-1), .int 0, .int (-1), .ref a_planned, .ref a_cameOf, .ref a_wasSaid, .int 0, .ref a_kept, .ref a_rowNow, .ref a_rowBest, .ref a_hasBy, .ref a_isFit, .ref a_cameThen, .long 0, .ref a_images, .ref a_imageForce, .ref a_imageX, .ref a_isMade])), (a_said, .inl (cy 0, 115, .inl (fun _ => 0)))] (fun r => r = (-1)) := by
  refine KP.of (by decide) (Nat.le_of_ble_eq_true rfl) (fun p e s m below meth c ls F hE hP hl => ?_)
  have F : kF p s m meth c cX12_look 7 (some .int) _ RX12 := F
  obtain ⟨hx, hb, hr, hml, hown, hG, hlk⟩ := id F
  have hl : lv_has ls 7 [(0, .ref m0), (1, .int x0), (2, .int x1)] := hl
  refine lv_aload_n hx hb dX12_look_0 rfl (lv_at hl 0 rfl) ?_
  refine kcV (As := []) (rest := []) F hE hP hl.1 (c_isGreen l D cy (m0 := m0) (a_tape := a_tape) (a_sign := a_sign) (a_length := a_length) (a_clause := a_clause) (a_clauses := a_clauses) (a_read := a_read) (a_open := a_open) (a_stack := a_stack) (a_word := a_word) (a_said := a_said) (a_planned := a_planned) (a_cameOf := a_cameOf) (a_wasSaid := a_wasSaid) (a_kept := a_kept) (a_rowNow := a_rowNow) (a_rowBest := a_rowBest) (a_hasBy := a_hasBy) (a_isFit := a_isFit) (a_cameThen := a_cameThen) (a_images := a_images) (a_imageForce := a_imageForce) (a_imageX := a_imageX) (a_isMade := a_isMade)) q_m_X12_294 mv_X12_isGreen ⟨(Nat.le_of_ble_eq_true rfl), (Nat.le_of_ble_eq_true rfl)⟩ [0, 1] rfl rfl rfl rfl rfl rfl (Nat.le_of_ble_eq_true rfl) ⟨(Nat.le_of_ble_eq_true rfl), (Nat.le_of_ble_eq_true rfl)⟩ dX12_look_1 (fun r_1 er_1 => ?_)
  subst er_1
  refine lv_if_eq (tgt := 29) hx hb dX12_look_4 (by decide) (fun _ => ?_) (fun q => absurd q (by decide))
  refine lv_iconst (v := (-1)) hx hb dX12_look_29 (by decide) ?_
  exact KP.rt F rfl rfl dX12_look_30

set_option maxHeartbeats 4000000 in
set_option maxRecDepth 100000 in
theorem m_gusts (l : Launch) (D : va_G) (cy : Nat → ClassId) (m0 a_tape a_sign a_length a_clause a_clauses a_read a_open a_stack a_word a_said a_planned a_cameOf a_wasSaid a_kept a_rowNow a_rowBest a_hasBy a_isFit a_cameThen a_images a_imageForce a_imageX a_isMade : Nat) (x0 : Int32) (x1 : Int32) (x2 : Int32) (x3 : Int32) : KP l yX12_gusts cX12_gusts 10 (some .int) 1 20 D (kTY cy) [.ref m0, .int x0, .int x1, .int x2, .int x3] [(m0, .inr (12, [.ref a_tape, .int 0, .int 0, .ref a_sign, .ref a_length, .ref a_clause, .ref a_clauses, .ref a_read, .int 0, .int 0, .int 0, .int 0, .int 0, .int 0, .int 0, .ref a_open, .int 0, .ref a_stack, .int 0, .ref a_word, .ref a_said, .int (-1), .int 0, .int (-1), .ref a_planned, .ref a_cameOf, .ref a_wasSaid, .int 0, .ref a_kept, .ref a_rowNow, .ref a_rowBest, .ref a_hasBy, .ref a_isFit, .ref a_cameThen, .long 0, .ref a_images, .ref a_imageForce, .ref a_imageX, .ref a_isMade])), (a_said, .inl (cy 0, 115, .inl (fun _ => 0)))] (fun r => r = (-1)) := by
  refine KP.of (by decide) (Nat.le_of_ble_eq_true rfl) (fun p e s m below meth c ls F hE hP hl => ?_)
  have F : kF p s m meth c cX12_gusts 10 (some .int) _ RX12 := F
  obtain ⟨hx, hb, hr, hml, hown, hG, hlk⟩ := id F
  have hl : lv_has ls 10 [(0, .ref m0), (1, .int x0), (2, .int x1), (3, .int x2), (4, .int x3)] := hl
  refine lv_aload_n hx hb dX12_gusts_0 rfl (lv_at hl 0 rfl) ?_
  refine kcV (As := []) (rest := []) F hE hP hl.1 (c_isGreen l D cy (m0 := m0) (a_tape := a_tape) (a_sign := a_sign) (a_length := a_length) (a_clause := a_clause) (a_clauses := a_clauses) (a_read := a_read) (a_open := a_open) (a_stack := a_stack) (a_word := a_word) (a_said := a_said) (a_planned := a_planned) (a_cameOf := a_cameOf) (a_wasSaid := a_wasSaid) (a_kept := a_kept) (a_rowNow := a_rowNow) (a_rowBest := a_rowBest) (a_hasBy := a_hasBy) (a_isFit := a_isFit) (a_cameThen := a_cameThen) (a_images := a_images) (a_imageForce := a_imageForce) (a_imageX := a_imageX) (a_isMade := a_isMade)) q_m_X12_294 mv_X12_isGreen ⟨(Nat.le_of_ble_eq_true rfl), (Nat.le_of_ble_eq_true rfl)⟩ [0, 1] rfl rfl rfl rfl rfl rfl (Nat.le_of_ble_eq_true rfl) ⟨(Nat.le_of_ble_eq_true rfl), (Nat.le_of_ble_eq_true rfl)⟩ dX12_gusts_1 (fun r_1 er_1 => ?_)
  subst er_1
  refine lv_if_eq (tgt := 54) hx hb dX12_gusts_4 (by decide) (fun _ => ?_) (fun q => absurd q (by decide))
  refine lv_iconst (v := (-1)) hx hb dX12_gusts_54 (by decide) ?_
  exact KP.rt F rfl rfl dX12_gusts_55

set_option maxHeartbeats 4000000 in
set_option maxRecDepth 100000 in
theorem m_undo (l : Launch) (D : va_G) (cy : Nat → ClassId) (m0 a_tape a_sign a_length a_clause a_clauses a_read a_open a_stack a_word a_said a_planned a_cameOf a_wasSaid a_kept a_rowNow a_rowBest a_hasBy a_isFit a_cameThen a_images a_imageForce a_imageX a_isMade : Nat) : KP l yX12_undo cX12_undo 2 (some .int) 0 0 D (kTY cy) [.ref m0] [(m0, .inr (12, [.ref a_tape, .int 0, .int 0, .ref a_sign, .ref a_length, .ref a_clause, .ref a_clauses, .ref a_read, .int 0, .int 0, .int 0, .int 0, .int 0, .int 0, .int 0, .ref a_open, .int 0, .ref a_stack, .int 0, .ref a_word, .ref a_said, .int (-1), .int 0, .int (-1), .ref a_planned, .ref a_cameOf, .ref a_wasSaid, .int 0, .ref a_kept, .ref a_rowNow, .ref a_rowBest, .ref a_hasBy, .ref a_isFit, .ref a_cameThen, .long 0, .ref a_images, .ref a_imageForce, .ref a_imageX, .ref a_isMade]))] (fun r => r = -1) := by
  refine KP.of (by decide) (Nat.le_of_ble_eq_true rfl) (fun p e s m below meth c ls F hE hP hl => ?_)
  have F : kF p s m meth c cX12_undo 2 (some .int) _ RX12 := F
  obtain ⟨hx, hb, hr, hml, hown, hG, hlk⟩ := id F
  have hl : lv_has ls 2 [(0, .ref m0)] := hl
  refine lv_aload_n hx hb dX12_undo_0 rfl (lv_at hl 0 rfl) ?_
  refine va_get (D := D) (ci := 12) (v := .int 0) (C := RX12) (T := TX12) (N := 39) hx hb hG inG_X12 hown hE.1 hP 0 rfl rfl 27 (by decide) (hG _ q_f_X12_276) (fun _ h9 => h9) rfl dX12_undo_1 ?_
  refine lv_if_ne (tgt := 9) hx hb dX12_undo_4 (by decide) (fun q => absurd q (by decide)) (fun _ => ?_)
  refine lv_iconst (v := (-1)) hx hb dX12_undo_7 (by decide) ?_
  exact KP.rt F rfl (rfl) dX12_undo_8

set_option maxHeartbeats 4000000 in
set_option maxRecDepth 100000 in
theorem m_count (l : Launch) (D : va_G) (cy : Nat → ClassId) (m0 a_tape a_sign a_length a_clause a_clauses a_read a_open a_stack a_word a_said a_planned a_cameOf a_wasSaid a_kept a_rowNow a_rowBest a_hasBy a_isFit a_cameThen a_images a_imageForce a_imageX a_isMade : Nat) (x0 : Int32) : KP l yX12_count cX12_count 2 (some .int) 2 40 D (kTY cy) [.ref m0, .int x0] [(m0, .inr (12, [.ref a_tape, .int 0, .int 0, .ref a_sign, .ref a_length, .ref a_clause, .ref a_clauses, .ref a_read, .int 0, .int 0, .int 0, .int 0, .int 0, .int 0, .int 0, .ref a_open, .int 0, .ref a_stack, .int 0, .ref a_word, .ref a_said, .int (-1), .int 0, .int (-1), .ref a_planned, .ref a_cameOf, .ref a_wasSaid, .int 0, .ref a_kept, .ref a_rowNow, .ref a_rowBest, .ref a_hasBy, .ref a_isFit, .ref a_cameThen, .long 0, .ref a_images, .ref a_imageForce, .ref a_imageX, .ref a_isMade])), (a_said, .inl (cy 0, 115, .inl (fun _ => 0)))] (fun r => r = k_cnt x0) := by
  refine KP.of (by decide) (Nat.le_of_ble_eq_true rfl) (fun p e s m below meth c ls F hE hP hl => ?_)
  have F : kF p s m meth c cX12_count 2 (some .int) _ RX12 := F
  obtain ⟨hx, hb, hr, hml, hown, hG, hlk⟩ := id F
  have hl : lv_has ls 2 [(0, .ref m0), (1, .int x0)] := hl
  refine lv_iload_n hx hb dX12_count_0 rfl (lv_at hl 1 rfl) ?_
  by_cases c_1 : x0 = 0
  · subst c_1
    refine lv_tableIn (off := 79) (tgt := 80) hx hb dX12_count_1 (by decide) (by decide) rfl (by decide) ?_
    refine lv_aload_n hx hb dX12_count_80 rfl (lv_at hl 0 rfl) ?_
    refine va_get (D := D) (ci := 12) (v := .ref a_said) (C := RX12) (T := TX12) (N := 39) hx hb hG inG_X12 hown hE.1 hP 0 rfl rfl 20 (by decide) (hG _ q_f_X12_39) (fun _ h9 => h9) rfl dX12_count_81 ?_
    refine lv_iload_n hx hb dX12_count_84 rfl (lv_at hl 1 rfl) ?_
    refine lv_iconst (v := 1) hx hb dX12_count_85 (by decide) ?_
    refine lv_iadd hx hb dX12_count_86 ?_
    refine k_top (z := 1) (by decide) ?_
    refine va_iald hx hb hE.1 hP 1 0 rfl rfl (by unfold vp_in; decide) dX12_count_87 ?_
    refine k_top (z := 0) rfl ?_
    exact KP.rt F rfl (by decide) dX12_count_88
  by_cases c_2 : x0 = 1
  · subst c_2
    refine lv_tableIn (off := 79) (tgt := 80) hx hb dX12_count_1 (by decide) (by decide) rfl (by decide) ?_
    refine lv_aload_n hx hb dX12_count_80 rfl (lv_at hl 0 rfl) ?_
    refine va_get (D := D) (ci := 12) (v := .ref a_said) (C := RX12) (T := TX12) (N := 39) hx hb hG inG_X12 hown hE.1 hP 0 rfl rfl 20 (by decide) (hG _ q_f_X12_39) (fun _ h9 => h9) rfl dX12_count_81 ?_
    refine lv_iload_n hx hb dX12_count_84 rfl (lv_at hl 1 rfl) ?_
    refine lv_iconst (v := 1) hx hb dX12_count_85 (by decide) ?_
    refine lv_iadd hx hb dX12_count_86 ?_
    refine k_top (z := 2) (by decide) ?_
    refine va_iald hx hb hE.1 hP 1 0 rfl rfl (by unfold vp_in; decide) dX12_count_87 ?_
    refine k_top (z := 0) rfl ?_
    exact KP.rt F rfl (by decide) dX12_count_88
  by_cases c_3 : x0 = 2
  · subst c_3
    refine lv_tableIn (off := 88) (tgt := 89) hx hb dX12_count_1 (by decide) (by decide) rfl (by decide) ?_
    refine lv_aload_n hx hb dX12_count_89 rfl (lv_at hl 0 rfl) ?_
    refine kcV (As := []) (rest := []) F hE hP hl.1 (c_comingRound l D cy (m0 := m0) (a_tape := a_tape) (a_sign := a_sign) (a_length := a_length) (a_clause := a_clause) (a_clauses := a_clauses) (a_read := a_read) (a_open := a_open) (a_stack := a_stack) (a_word := a_word) (a_said := a_said) (a_planned := a_planned) (a_cameOf := a_cameOf) (a_wasSaid := a_wasSaid) (a_kept := a_kept) (a_rowNow := a_rowNow) (a_rowBest := a_rowBest) (a_hasBy := a_hasBy) (a_isFit := a_isFit) (a_cameThen := a_cameThen) (a_images := a_images) (a_imageForce := a_imageForce) (a_imageX := a_imageX) (a_isMade := a_isMade)) q_m_X12_323 mv_X12_comingRound ⟨(Nat.le_of_ble_eq_true rfl), (Nat.le_of_ble_eq_true rfl)⟩ [0, 1] rfl rfl rfl rfl rfl rfl (Nat.le_of_ble_eq_true rfl) ⟨(Nat.le_of_ble_eq_true rfl), (Nat.le_of_ble_eq_true rfl)⟩ dX12_count_90 (fun r_4 er_4 => ?_)
    subst er_4
    exact KP.rt F rfl (by decide) dX12_count_93
  by_cases c_5 : x0 = 3
  · subst c_5
    refine lv_tableIn (off := 93) (tgt := 94) hx hb dX12_count_1 (by decide) (by decide) rfl (by decide) ?_
    refine lv_aload_n hx hb dX12_count_94 rfl (lv_at hl 0 rfl) ?_
    refine va_get (D := D) (ci := 12) (v := .ref a_said) (C := RX12) (T := TX12) (N := 39) hx hb hG inG_X12 hown hE.1 hP 0 rfl rfl 20 (by decide) (hG _ q_f_X12_39) (fun _ h9 => h9) rfl dX12_count_95 ?_
    refine lv_iload_n hx hb dX12_count_98 rfl (lv_at hl 1 rfl) ?_
    refine lv_iconst (v := 1) hx hb dX12_count_99 (by decide) ?_
    refine lv_iadd hx hb dX12_count_100 ?_
    refine k_top (z := 4) (by decide) ?_
    refine va_iald hx hb hE.1 hP 1 0 rfl rfl (by unfold vp_in; decide) dX12_count_101 ?_
    refine k_top (z := 0) rfl ?_
    exact KP.rt F rfl (by decide) dX12_count_102
  by_cases c_6 : x0 = 4
  · subst c_6
    refine lv_tableIn (off := 93) (tgt := 94) hx hb dX12_count_1 (by decide) (by decide) rfl (by decide) ?_
    refine lv_aload_n hx hb dX12_count_94 rfl (lv_at hl 0 rfl) ?_
    refine va_get (D := D) (ci := 12) (v := .ref a_said) (C := RX12) (T := TX12) (N := 39) hx hb hG inG_X12 hown hE.1 hP 0 rfl rfl 20 (by decide) (hG _ q_f_X12_39) (fun _ h9 => h9) rfl dX12_count_95 ?_
    refine lv_iload_n hx hb dX12_count_98 rfl (lv_at hl 1 rfl) ?_
    refine lv_iconst (v := 1) hx hb dX12_count_99 (by decide) ?_
    refine lv_iadd hx hb dX12_count_100 ?_
    refine k_top (z := 5) (by decide) ?_
    refine va_iald hx hb hE.1 hP 1 0 rfl rfl (by unfold vp_in; decide) dX12_count_101 ?_
    refine k_top (z := 0) rfl ?_
    exact KP.rt F rfl (by decide) dX12_count_102
  by_cases c_7 : x0 = 5
  · subst c_7
    refine lv_tableIn (off := 102) (tgt := 103) hx hb dX12_count_1 (by decide) (by decide) rfl (by decide) ?_
    refine lv_aload_n hx hb dX12_count_103 rfl (lv_at hl 0 rfl) ?_
    refine va_get (D := D) (ci := 12) (v := .int 0) (C := RX12) (T := TX12) (N := 39) hx hb hG inG_X12 hown hE.1 hP 0 rfl rfl 2 (by decide) (hG _ q_f_X12_267) (fun _ h9 => h9) rfl dX12_count_104 ?_
    exact KP.rt F rfl (by decide) dX12_count_107
  by_cases c_8 : x0 = 6
  · subst c_8
    refine lv_tableIn (off := 107) (tgt := 108) hx hb dX12_count_1 (by decide) (by decide) rfl (by decide) ?_
    refine lv_aload_n hx hb dX12_count_108 rfl (lv_at hl 0 rfl) ?_
    refine va_get (D := D) (ci := 12) (v := .int (-1)) (C := RX12) (T := TX12) (N := 39) hx hb hG inG_X12 hown hE.1 hP 0 rfl rfl 21 (by decide) (hG _ q_f_X12_42) (fun _ h9 => h9) rfl dX12_count_109 ?_
    exact KP.rt F rfl (by decide) dX12_count_112
  by_cases c_9 : x0 = 7
  · subst c_9
    refine lv_tableIn (off := 112) (tgt := 113) hx hb dX12_count_1 (by decide) (by decide) rfl (by decide) ?_
    refine lv_aload_n hx hb dX12_count_113 rfl (lv_at hl 0 rfl) ?_
    refine va_get (D := D) (ci := 12) (v := .ref a_said) (C := RX12) (T := TX12) (N := 39) hx hb hG inG_X12 hown hE.1 hP 0 rfl rfl 20 (by decide) (hG _ q_f_X12_39) (fun _ h9 => h9) rfl dX12_count_114 ?_
    refine lv_bipush (v := 10) hx hb dX12_count_117 (by decide) ?_
    refine va_iald hx hb hE.1 hP 1 0 rfl rfl (by unfold vp_in; decide) dX12_count_119 ?_
    refine k_top (z := 0) rfl ?_
    exact KP.rt F rfl (by decide) dX12_count_120
  by_cases c_10 : x0 = 8
  · subst c_10
    refine lv_tableIn (off := 120) (tgt := 121) hx hb dX12_count_1 (by decide) (by decide) rfl (by decide) ?_
    refine lv_aload_n hx hb dX12_count_121 rfl (lv_at hl 0 rfl) ?_
    refine va_get (D := D) (ci := 12) (v := .ref a_said) (C := RX12) (T := TX12) (N := 39) hx hb hG inG_X12 hown hE.1 hP 0 rfl rfl 20 (by decide) (hG _ q_f_X12_39) (fun _ h9 => h9) rfl dX12_count_122 ?_
    refine lv_bipush (v := 11) hx hb dX12_count_125 (by decide) ?_
    refine va_iald hx hb hE.1 hP 1 0 rfl rfl (by unfold vp_in; decide) dX12_count_127 ?_
    refine k_top (z := 0) rfl ?_
    exact KP.rt F rfl (by decide) dX12_count_128
  by_cases c_11 : x0 = 9
  · subst c_11
    refine lv_tableIn (off := 128) (tgt := 129) hx hb dX12_count_1 (by decide) (by decide) rfl (by decide) ?_
    refine lv_aload_n hx hb dX12_count_129 rfl (lv_at hl 0 rfl) ?_
    refine lv_iconst (v := 1) hx hb dX12_count_130 (by decide) ?_
    refine kcV (As := [.int 1]) (rest := []) F hE hP hl.1 (c_sumOver l D cy (m0 := m0) (x0 := 1) (a_tape := a_tape) (a_sign := a_sign) (a_length := a_length) (a_clause := a_clause) (a_clauses := a_clauses) (a_read := a_read) (a_open := a_open) (a_stack := a_stack) (a_word := a_word) (a_said := a_said) (a_planned := a_planned) (a_cameOf := a_cameOf) (a_wasSaid := a_wasSaid) (a_kept := a_kept) (a_rowNow := a_rowNow) (a_rowBest := a_rowBest) (a_hasBy := a_hasBy) (a_isFit := a_isFit) (a_cameThen := a_cameThen) (a_images := a_images) (a_imageForce := a_imageForce) (a_imageX := a_imageX) (a_isMade := a_isMade)) q_m_X12_381 mv_X12_sumOver ⟨(Nat.le_of_ble_eq_true rfl), (Nat.le_of_ble_eq_true rfl)⟩ [0, 1] rfl rfl rfl rfl rfl rfl (Nat.le_of_ble_eq_true rfl) ⟨(Nat.le_of_ble_eq_true rfl), (Nat.le_of_ble_eq_true rfl)⟩ dX12_count_131 (fun r_12 er_12 => ?_)
    subst er_12
    exact KP.rt F rfl (by decide) dX12_count_134
  by_cases c_13 : x0 = 10
  · subst c_13
    refine lv_tableIn (off := 134) (tgt := 135) hx hb dX12_count_1 (by decide) (by decide) rfl (by decide) ?_
    refine lv_aload_n hx hb dX12_count_135 rfl (lv_at hl 0 rfl) ?_
    refine lv_iconst (v := 2) hx hb dX12_count_136 (by decide) ?_
    refine kcV (As := [.int 2]) (rest := []) F hE hP hl.1 (c_sumOver l D cy (m0 := m0) (x0 := 2) (a_tape := a_tape) (a_sign := a_sign) (a_length := a_length) (a_clause := a_clause) (a_clauses := a_clauses) (a_read := a_read) (a_open := a_open) (a_stack := a_stack) (a_word := a_word) (a_said := a_said) (a_planned := a_planned) (a_cameOf := a_cameOf) (a_wasSaid := a_wasSaid) (a_kept := a_kept) (a_rowNow := a_rowNow) (a_rowBest := a_rowBest) (a_hasBy := a_hasBy) (a_isFit := a_isFit) (a_cameThen := a_cameThen) (a_images := a_images) (a_imageForce := a_imageForce) (a_imageX := a_imageX) (a_isMade := a_isMade)) q_m_X12_381 mv_X12_sumOver ⟨(Nat.le_of_ble_eq_true rfl), (Nat.le_of_ble_eq_true rfl)⟩ [0, 1] rfl rfl rfl rfl rfl rfl (Nat.le_of_ble_eq_true rfl) ⟨(Nat.le_of_ble_eq_true rfl), (Nat.le_of_ble_eq_true rfl)⟩ dX12_count_137 (fun r_14 er_14 => ?_)
    subst er_14
    exact KP.rt F rfl (by decide) dX12_count_140
  by_cases c_15 : x0 = 11
  · subst c_15
    refine lv_tableIn (off := 140) (tgt := 141) hx hb dX12_count_1 (by decide) (by decide) rfl (by decide) ?_
    refine lv_aload_n hx hb dX12_count_141 rfl (lv_at hl 0 rfl) ?_
    refine va_get (D := D) (ci := 12) (v := .ref a_said) (C := RX12) (T := TX12) (N := 39) hx hb hG inG_X12 hown hE.1 hP 0 rfl rfl 20 (by decide) (hG _ q_f_X12_39) (fun _ h9 => h9) rfl dX12_count_142 ?_
    refine lv_bipush (v := 12) hx hb dX12_count_145 (by decide) ?_
    refine va_iald hx hb hE.1 hP 1 0 rfl rfl (by unfold vp_in; decide) dX12_count_147 ?_
    refine k_top (z := 0) rfl ?_
    exact KP.rt F rfl (by decide) dX12_count_148
  by_cases c_16 : x0 = 12
  · subst c_16
    refine lv_tableIn (off := 148) (tgt := 149) hx hb dX12_count_1 (by decide) (by decide) rfl (by decide) ?_
    refine lv_aload_n hx hb dX12_count_149 rfl (lv_at hl 0 rfl) ?_
    refine va_get (D := D) (ci := 12) (v := .ref a_said) (C := RX12) (T := TX12) (N := 39) hx hb hG inG_X12 hown hE.1 hP 0 rfl rfl 20 (by decide) (hG _ q_f_X12_39) (fun _ h9 => h9) rfl dX12_count_150 ?_
    refine lv_bipush (v := 114) hx hb dX12_count_153 (by decide) ?_
    refine va_iald hx hb hE.1 hP 1 0 rfl rfl (by unfold vp_in; decide) dX12_count_155 ?_
    refine k_top (z := 0) rfl ?_
    exact KP.rt F rfl (by decide) dX12_count_156
  by_cases c_17 : x0 = 13
  · subst c_17
    refine lv_tableIn (off := 156) (tgt := 157) hx hb dX12_count_1 (by decide) (by decide) rfl (by decide) ?_
    refine lv_aload_n hx hb dX12_count_157 rfl (lv_at hl 0 rfl) ?_
    refine va_get (D := D) (ci := 12) (v := .int 0) (C := RX12) (T := TX12) (N := 39) hx hb hG inG_X12 hown hE.1 hP 0 rfl rfl 27 (by decide) (hG _ q_f_X12_276) (fun _ h9 => h9) rfl dX12_count_158 ?_
    exact KP.rt F rfl (by decide) dX12_count_161
  by_cases c_18 : x0 = 14
  · subst c_18
    refine lv_tableIn (off := 161) (tgt := 162) hx hb dX12_count_1 (by decide) (by decide) rfl (by decide) ?_
    refine lv_aload_n hx hb dX12_count_162 rfl (lv_at hl 0 rfl) ?_
    refine va_get (D := D) (ci := 12) (v := .int 0) (C := RX12) (T := TX12) (N := 39) hx hb hG inG_X12 hown hE.1 hP 0 rfl rfl 22 (by decide) (hG _ q_f_X12_442) (fun _ h9 => h9) rfl dX12_count_163 ?_
    exact KP.rt F rfl (by decide) dX12_count_166
  by_cases c_19 : x0 = 15
  · subst c_19
    refine lv_tableIn (off := 166) (tgt := 167) hx hb dX12_count_1 (by decide) (by decide) rfl (by decide) ?_
    refine lv_aload_n hx hb dX12_count_167 rfl (lv_at hl 0 rfl) ?_
    refine va_get (D := D) (ci := 12) (v := .int 0) (C := RX12) (T := TX12) (N := 39) hx hb hG inG_X12 hown hE.1 hP 0 rfl rfl 1 (by decide) (hG _ q_f_X12_89) (fun _ h9 => h9) rfl dX12_count_168 ?_
    exact KP.rt F rfl (by decide) dX12_count_171
  have nc_1 := lv_neT (a := 0) c_1 rfl
  have nc_2 := lv_neT (a := 1) c_2 rfl
  have nc_3 := lv_neT (a := 2) c_3 rfl
  have nc_5 := lv_neT (a := 3) c_5 rfl
  have nc_6 := lv_neT (a := 4) c_6 rfl
  have nc_7 := lv_neT (a := 5) c_7 rfl
  have nc_8 := lv_neT (a := 6) c_8 rfl
  have nc_9 := lv_neT (a := 7) c_9 rfl
  have nc_10 := lv_neT (a := 8) c_10 rfl
  have nc_11 := lv_neT (a := 9) c_11 rfl
  have nc_13 := lv_neT (a := 10) c_13 rfl
  have nc_15 := lv_neT (a := 11) c_15 rfl
  have nc_16 := lv_neT (a := 12) c_16 rfl
  have nc_17 := lv_neT (a := 13) c_17 rfl
  have nc_18 := lv_neT (a := 14) c_18 rfl
  have nc_19 := lv_neT (a := 15) c_19 rfl
  refine lv_tableOut (tgt := 172) hx hb dX12_count_1 (by omega) (by decide) ?_
  refine lv_iconst (v := (-1)) hx hb dX12_count_172 (by decide) ?_
  exact KP.rt F rfl (by simp [k_cnt, *]) dX12_count_173
end
