section
-- ===== PART A: goes FIRST, ahead of the names: the tables' words, and 'selects' of the private methods out of them =====
/-- a private method of a class that the tables say can be made, by its rows of tables_1 -/
def lw_okq (q : MethodName × Nat) : Prop := (q.1.cls ≠ "java/lang/invoke/MethodHandle" ∧ q.1.cls ≠ "java/lang/invoke/VarHandle") ∧ Cond.instantiable q.1.cls q.2 ∈ tables_1 ∧ Cond.privateMethod q.1 ∈ tables_1 ∧ Cond.instanceMethod q.1 ∈ tables_1
theorem lw_p0 : lw_okq (⟨"StrawButts$Tape", "scanToken", "(I)I"⟩, 11) := ⟨⟨by decide +kernel, by decide +kernel⟩, List.mem_of_getElem? (i := 30) (by decide +kernel), List.mem_of_getElem? (i := 351) (by decide +kernel), List.mem_of_getElem? (i := 352) (by decide +kernel)⟩
theorem lw_p1 : lw_okq (⟨"StrawButts$Tape", "isDigit", "(I)Z"⟩, 11) := ⟨⟨by decide +kernel, by decide +kernel⟩, List.mem_of_getElem? (i := 30) (by decide +kernel), List.mem_of_getElem? (i := 355) (by decide +kernel), List.mem_of_getElem? (i := 356) (by decide +kernel)⟩
theorem lw_p2 : lw_okq (⟨"StrawButts$Tape", "scanNumber", "(I)I"⟩, 11) := ⟨⟨by decide +kernel, by decide +kernel⟩, List.mem_of_getElem? (i := 30) (by decide +kernel), List.mem_of_getElem? (i := 359) (by decide +kernel), List.mem_of_getElem? (i := 360) (by decide +kernel)⟩
theorem lw_p3 : lw_okq (⟨"StrawButts$Tape", "addToken", "(III)V"⟩, 11) := ⟨⟨by decide +kernel, by decide +kernel⟩, List.mem_of_getElem? (i := 30) (by decide +kernel), List.mem_of_getElem? (i := 363) (by decide +kernel), List.mem_of_getElem? (i := 364) (by decide +kernel)⟩
theorem lw_p4 : lw_okq (⟨"StrawButts$Tape", "isLetter", "(I)Z"⟩, 11) := ⟨⟨by decide +kernel, by decide +kernel⟩, List.mem_of_getElem? (i := 30) (by decide +kernel), List.mem_of_getElem? (i := 367) (by decide +kernel), List.mem_of_getElem? (i := 368) (by decide +kernel)⟩
theorem lw_p5 : lw_okq (⟨"StrawButts$Tape", "scanWord", "(I)I"⟩, 11) := ⟨⟨by decide +kernel, by decide +kernel⟩, List.mem_of_getElem? (i := 30) (by decide +kernel), List.mem_of_getElem? (i := 371) (by decide +kernel), List.mem_of_getElem? (i := 372) (by decide +kernel)⟩
theorem lw_p6 : lw_okq (⟨"StrawButts$Tape", "wordOf", "(II)I"⟩, 11) := ⟨⟨by decide +kernel, by decide +kernel⟩, List.mem_of_getElem? (i := 30) (by decide +kernel), List.mem_of_getElem? (i := 375) (by decide +kernel), List.mem_of_getElem? (i := 376) (by decide +kernel)⟩
theorem lw_p7 : lw_okq (⟨"StrawButts$Tape", "isNamed", "(III)Z"⟩, 11) := ⟨⟨by decide +kernel, by decide +kernel⟩, List.mem_of_getElem? (i := 30) (by decide +kernel), List.mem_of_getElem? (i := 428) (by decide +kernel), List.mem_of_getElem? (i := 429) (by decide +kernel)⟩
theorem lw_p8 : lw_okq (⟨"StrawButts$GreenReader", "readClause", "(LStrawButts$Tape;I)V"⟩, 1) := ⟨⟨by decide +kernel, by decide +kernel⟩, List.mem_of_getElem? (i := 80) (by decide +kernel), List.mem_of_getElem? (i := 443) (by decide +kernel), List.mem_of_getElem? (i := 444) (by decide +kernel)⟩
theorem lw_p9 : lw_okq (⟨"StrawButts$GreenReader", "isFullOf", "(I)Z"⟩, 1) := ⟨⟨by decide +kernel, by decide +kernel⟩, List.mem_of_getElem? (i := 80) (by decide +kernel), List.mem_of_getElem? (i := 454) (by decide +kernel), List.mem_of_getElem? (i := 455) (by decide +kernel)⟩
theorem lw_p10 : lw_okq (⟨"StrawButts$GreenReader", "readNumbers", "(LStrawButts$Tape;I)V"⟩, 1) := ⟨⟨by decide +kernel, by decide +kernel⟩, List.mem_of_getElem? (i := 80) (by decide +kernel), List.mem_of_getElem? (i := 459) (by decide +kernel), List.mem_of_getElem? (i := 460) (by decide +kernel)⟩
theorem lw_p11 : lw_okq (⟨"StrawButts$GreenReader", "readNumber", "(LStrawButts$Tape;II)I"⟩, 1) := ⟨⟨by decide +kernel, by decide +kernel⟩, List.mem_of_getElem? (i := 80) (by decide +kernel), List.mem_of_getElem? (i := 463) (by decide +kernel), List.mem_of_getElem? (i := 464) (by decide +kernel)⟩
theorem lw_p12 : lw_okq (⟨"StrawButts$GreenReader", "readFreePlace", "(LStrawButts$Tape;)I"⟩, 1) := ⟨⟨by decide +kernel, by decide +kernel⟩, List.mem_of_getElem? (i := 80) (by decide +kernel), List.mem_of_getElem? (i := 468) (by decide +kernel), List.mem_of_getElem? (i := 469) (by decide +kernel)⟩
theorem lw_p13 : lw_okq (⟨"StrawButts$GreenReader", "complete", "()V"⟩, 1) := ⟨⟨by decide +kernel, by decide +kernel⟩, List.mem_of_getElem? (i := 80) (by decide +kernel), List.mem_of_getElem? (i := 485) (by decide +kernel), List.mem_of_getElem? (i := 486) (by decide +kernel)⟩
theorem lw_p14 : lw_okq (⟨"StrawButts$RuleReader", "readClause", "(LStrawButts$Tape;I)V"⟩, 3) := ⟨⟨by decide +kernel, by decide +kernel⟩, List.mem_of_getElem? (i := 107) (by decide +kernel), List.mem_of_getElem? (i := 506) (by decide +kernel), List.mem_of_getElem? (i := 507) (by decide +kernel)⟩
theorem lw_p15 : lw_okq (⟨"StrawButts$RuleReader", "readSum", "(LStrawButts$Tape;)V"⟩, 3) := ⟨⟨by decide +kernel, by decide +kernel⟩, List.mem_of_getElem? (i := 107) (by decide +kernel), List.mem_of_getElem? (i := 516) (by decide +kernel), List.mem_of_getElem? (i := 517) (by decide +kernel)⟩
def lw_privs_1 : List (MethodName × Nat) := [(⟨"StrawButts$Tape", "scanToken", "(I)I"⟩, 11), (⟨"StrawButts$Tape", "isDigit", "(I)Z"⟩, 11), (⟨"StrawButts$Tape", "scanNumber", "(I)I"⟩, 11), (⟨"StrawButts$Tape", "addToken", "(III)V"⟩, 11), (⟨"StrawButts$Tape", "isLetter", "(I)Z"⟩, 11), (⟨"StrawButts$Tape", "scanWord", "(I)I"⟩, 11), (⟨"StrawButts$Tape", "wordOf", "(II)I"⟩, 11), (⟨"StrawButts$Tape", "isNamed", "(III)Z"⟩, 11), (⟨"StrawButts$GreenReader", "readClause", "(LStrawButts$Tape;I)V"⟩, 1), (⟨"StrawButts$GreenReader", "isFullOf", "(I)Z"⟩, 1), (⟨"StrawButts$GreenReader", "readNumbers", "(LStrawButts$Tape;I)V"⟩, 1), (⟨"StrawButts$GreenReader", "readNumber", "(LStrawButts$Tape;II)I"⟩, 1), (⟨"StrawButts$GreenReader", "readFreePlace", "(LStrawButts$Tape;)I"⟩, 1), (⟨"StrawButts$GreenReader", "complete", "()V"⟩, 1), (⟨"StrawButts$RuleReader", "readClause", "(LStrawButts$Tape;I)V"⟩, 3), (⟨"StrawButts$RuleReader", "readSum", "(LStrawButts$Tape;)V"⟩, 3)]
theorem lw_r1 : ∀ q ∈ lw_privs_1, lw_okq q := List.forall_mem_cons.mpr ⟨lw_p0, List.forall_mem_cons.mpr ⟨lw_p1, List.forall_mem_cons.mpr ⟨lw_p2, List.forall_mem_cons.mpr ⟨lw_p3, List.forall_mem_cons.mpr ⟨lw_p4, List.forall_mem_cons.mpr ⟨lw_p5, List.forall_mem_cons.mpr ⟨lw_p6, List.forall_mem_cons.mpr ⟨lw_p7, List.forall_mem_cons.mpr ⟨lw_p8, List.forall_mem_cons.mpr ⟨lw_p9, List.forall_mem_cons.mpr ⟨lw_p10, List.forall_mem_cons.mpr ⟨lw_p11, List.forall_mem_cons.mpr ⟨lw_p12, List.forall_mem_cons.mpr ⟨lw_p13, List.forall_mem_cons.mpr ⟨lw_p14, List.forall_mem_cons.mpr ⟨lw_p15, fun _ h => absurd h List.not_mem_nil⟩⟩⟩⟩⟩⟩⟩⟩⟩⟩⟩⟩⟩⟩⟩⟩
theorem lw_p16 : lw_okq (⟨"StrawButts$RuleReader", "readValue", "(LStrawButts$Tape;)V"⟩, 3) := ⟨⟨by decide +kernel, by decide +kernel⟩, List.mem_of_getElem? (i := 107) (by decide +kernel), List.mem_of_getElem? (i := 520) (by decide +kernel), List.mem_of_getElem? (i := 521) (by decide +kernel)⟩
theorem lw_p17 : lw_okq (⟨"StrawButts$RuleReader", "addStep", "(II)V"⟩, 3) := ⟨⟨by decide +kernel, by decide +kernel⟩, List.mem_of_getElem? (i := 107) (by decide +kernel), List.mem_of_getElem? (i := 524) (by decide +kernel), List.mem_of_getElem? (i := 525) (by decide +kernel)⟩
theorem lw_p18 : lw_okq (⟨"StrawButts$RuleReader", "readTest", "(LStrawButts$Tape;I)V"⟩, 3) := ⟨⟨by decide +kernel, by decide +kernel⟩, List.mem_of_getElem? (i := 107) (by decide +kernel), List.mem_of_getElem? (i := 531) (by decide +kernel), List.mem_of_getElem? (i := 532) (by decide +kernel)⟩
theorem lw_p19 : lw_okq (⟨"StrawButts$RuleReader", "readFact", "(LStrawButts$Tape;I)V"⟩, 3) := ⟨⟨by decide +kernel, by decide +kernel⟩, List.mem_of_getElem? (i := 107) (by decide +kernel), List.mem_of_getElem? (i := 535) (by decide +kernel), List.mem_of_getElem? (i := 536) (by decide +kernel)⟩
theorem lw_p20 : lw_okq (⟨"StrawButts$RuleReader", "readComparison", "(LStrawButts$Tape;)I"⟩, 3) := ⟨⟨by decide +kernel, by decide +kernel⟩, List.mem_of_getElem? (i := 107) (by decide +kernel), List.mem_of_getElem? (i := 540) (by decide +kernel), List.mem_of_getElem? (i := 541) (by decide +kernel)⟩
theorem lw_p21 : lw_okq (⟨"StrawButts", "ruleInForce", "()LStrawButts$Rule;"⟩, 11) := ⟨⟨by decide +kernel, by decide +kernel⟩, List.mem_of_getElem? (i := 22) (by decide +kernel), List.mem_of_getElem? (i := 631) (by decide +kernel), List.mem_of_getElem? (i := 632) (by decide +kernel)⟩
theorem lw_p22 : lw_okq (⟨"StrawButts$Play", "takeTurn", "(I)I"⟩, 8) := ⟨⟨by decide +kernel, by decide +kernel⟩, List.mem_of_getElem? (i := 200) (by decide +kernel), List.mem_of_getElem? (i := 645) (by decide +kernel), List.mem_of_getElem? (i := 646) (by decide +kernel)⟩
theorem lw_p23 : lw_okq (⟨"StrawButts$Play", "aimOf", "(II)I"⟩, 8) := ⟨⟨by decide +kernel, by decide +kernel⟩, List.mem_of_getElem? (i := 200) (by decide +kernel), List.mem_of_getElem? (i := 650) (by decide +kernel), List.mem_of_getElem? (i := 651) (by decide +kernel)⟩
theorem lw_p24 : lw_okq (⟨"StrawButts$Forecast", "takeIfMore", "(II)V"⟩, 5) := ⟨⟨by decide +kernel, by decide +kernel⟩, List.mem_of_getElem? (i := 242) (by decide +kernel), List.mem_of_getElem? (i := 782) (by decide +kernel), List.mem_of_getElem? (i := 783) (by decide +kernel)⟩
theorem lw_p25 : lw_okq (⟨"StrawButts$Forecast", "isRest", "(II)Z"⟩, 5) := ⟨⟨by decide +kernel, by decide +kernel⟩, List.mem_of_getElem? (i := 242) (by decide +kernel), List.mem_of_getElem? (i := 809) (by decide +kernel), List.mem_of_getElem? (i := 810) (by decide +kernel)⟩
theorem lw_p26 : lw_okq (⟨"StrawButts$Forecast", "drawn", "()I"⟩, 5) := ⟨⟨by decide +kernel, by decide +kernel⟩, List.mem_of_getElem? (i := 242) (by decide +kernel), List.mem_of_getElem? (i := 896) (by decide +kernel), List.mem_of_getElem? (i := 897) (by decide +kernel)⟩
theorem lw_p27 : lw_okq (⟨"StrawButtsModel", "four", "(I)V"⟩, 39) := ⟨⟨by decide +kernel, by decide +kernel⟩, List.mem_of_getElem? (i := 923) (by decide +kernel), List.mem_of_getElem? (i := 1052) (by decide +kernel), List.mem_of_getElem? (i := 1053) (by decide +kernel)⟩
theorem lw_p28 : lw_okq (⟨"StrawButtsModel", "readsAll", "()Z"⟩, 39) := ⟨⟨by decide +kernel, by decide +kernel⟩, List.mem_of_getElem? (i := 923) (by decide +kernel), List.mem_of_getElem? (i := 1064) (by decide +kernel), List.mem_of_getElem? (i := 1065) (by decide +kernel)⟩
theorem lw_p29 : lw_okq (⟨"StrawButtsModel", "clauseHere", "()Z"⟩, 39) := ⟨⟨by decide +kernel, by decide +kernel⟩, List.mem_of_getElem? (i := 923) (by decide +kernel), List.mem_of_getElem? (i := 1068) (by decide +kernel), List.mem_of_getElem? (i := 1069) (by decide +kernel)⟩
theorem lw_p30 : lw_okq (⟨"StrawButtsModel", "see", "()I"⟩, 39) := ⟨⟨by decide +kernel, by decide +kernel⟩, List.mem_of_getElem? (i := 923) (by decide +kernel), List.mem_of_getElem? (i := 1072) (by decide +kernel), List.mem_of_getElem? (i := 1073) (by decide +kernel)⟩
theorem lw_p31 : lw_okq (⟨"StrawButtsModel", "isGreenWord", "()Z"⟩, 39) := ⟨⟨by decide +kernel, by decide +kernel⟩, List.mem_of_getElem? (i := 923) (by decide +kernel), List.mem_of_getElem? (i := 1076) (by decide +kernel), List.mem_of_getElem? (i := 1077) (by decide +kernel)⟩
def lw_privs_2 : List (MethodName × Nat) := [(⟨"StrawButts$RuleReader", "readValue", "(LStrawButts$Tape;)V"⟩, 3), (⟨"StrawButts$RuleReader", "addStep", "(II)V"⟩, 3), (⟨"StrawButts$RuleReader", "readTest", "(LStrawButts$Tape;I)V"⟩, 3), (⟨"StrawButts$RuleReader", "readFact", "(LStrawButts$Tape;I)V"⟩, 3), (⟨"StrawButts$RuleReader", "readComparison", "(LStrawButts$Tape;)I"⟩, 3), (⟨"StrawButts", "ruleInForce", "()LStrawButts$Rule;"⟩, 11), (⟨"StrawButts$Play", "takeTurn", "(I)I"⟩, 8), (⟨"StrawButts$Play", "aimOf", "(II)I"⟩, 8), (⟨"StrawButts$Forecast", "takeIfMore", "(II)V"⟩, 5), (⟨"StrawButts$Forecast", "isRest", "(II)Z"⟩, 5), (⟨"StrawButts$Forecast", "drawn", "()I"⟩, 5), (⟨"StrawButtsModel", "four", "(I)V"⟩, 39), (⟨"StrawButtsModel", "readsAll", "()Z"⟩, 39), (⟨"StrawButtsModel", "clauseHere", "()Z"⟩, 39), (⟨"StrawButtsModel", "see", "()I"⟩, 39), (⟨"StrawButtsModel", "isGreenWord", "()Z"⟩, 39)]
theorem lw_r2 : ∀ q ∈ lw_privs_2, lw_okq q := List.forall_mem_cons.mpr ⟨lw_p16, List.forall_mem_cons.mpr ⟨lw_p17, List.forall_mem_cons.mpr ⟨lw_p18, List.forall_mem_cons.mpr ⟨lw_p19, List.forall_mem_cons.mpr ⟨lw_p20, List.forall_mem_cons.mpr ⟨lw_p21, List.forall_mem_cons.mpr ⟨lw_p22, List.forall_mem_cons.mpr ⟨lw_p23, List.forall_mem_cons.mpr ⟨lw_p24, List.forall_mem_cons.mpr ⟨lw_p25, List.forall_mem_cons.mpr ⟨lw_p26, List.forall_mem_cons.mpr ⟨lw_p27, List.forall_mem_cons.mpr ⟨lw_p28, List.forall_mem_cons.mpr ⟨lw_p29, List.forall_mem_cons.mpr ⟨lw_p30, List.forall_mem_cons.mpr ⟨lw_p31, fun _ h => absurd h List.not_mem_nil⟩⟩⟩⟩⟩⟩⟩⟩⟩⟩⟩⟩⟩⟩⟩⟩
theorem lw_p32 : lw_okq (⟨"StrawButtsModel", "isWord", "(J)Z"⟩, 39) := ⟨⟨by decide +kernel, by decide +kernel⟩, List.mem_of_getElem? (i := 923) (by decide +kernel), List.mem_of_getElem? (i := 1081) (by decide +kernel), List.mem_of_getElem? (i := 1082) (by decide +kernel)⟩
theorem lw_p33 : lw_okq (⟨"StrawButtsModel", "isLetter", "(I)Z"⟩, 39) := ⟨⟨by decide +kernel, by decide +kernel⟩, List.mem_of_getElem? (i := 923) (by decide +kernel), List.mem_of_getElem? (i := 1085) (by decide +kernel), List.mem_of_getElem? (i := 1086) (by decide +kernel)⟩
theorem lw_p34 : lw_okq (⟨"StrawButtsModel", "fails", "(II)Z"⟩, 39) := ⟨⟨by decide +kernel, by decide +kernel⟩, List.mem_of_getElem? (i := 923) (by decide +kernel), List.mem_of_getElem? (i := 1093) (by decide +kernel), List.mem_of_getElem? (i := 1094) (by decide +kernel)⟩
theorem lw_p35 : lw_okq (⟨"StrawButtsModel", "greenLineHere", "(I)Z"⟩, 39) := ⟨⟨by decide +kernel, by decide +kernel⟩, List.mem_of_getElem? (i := 923) (by decide +kernel), List.mem_of_getElem? (i := 1097) (by decide +kernel), List.mem_of_getElem? (i := 1098) (by decide +kernel)⟩
theorem lw_p36 : lw_okq (⟨"StrawButtsModel", "isGreenHere", "(I)Z"⟩, 39) := ⟨⟨by decide +kernel, by decide +kernel⟩, List.mem_of_getElem? (i := 923) (by decide +kernel), List.mem_of_getElem? (i := 1101) (by decide +kernel), List.mem_of_getElem? (i := 1102) (by decide +kernel)⟩
theorem lw_p37 : lw_okq (⟨"StrawButtsModel", "passWord", "()V"⟩, 39) := ⟨⟨by decide +kernel, by decide +kernel⟩, List.mem_of_getElem? (i := 923) (by decide +kernel), List.mem_of_getElem? (i := 1105) (by decide +kernel), List.mem_of_getElem? (i := 1106) (by decide +kernel)⟩
theorem lw_p38 : lw_okq (⟨"StrawButtsModel", "cellHere", "(III)Z"⟩, 39) := ⟨⟨by decide +kernel, by decide +kernel⟩, List.mem_of_getElem? (i := 923) (by decide +kernel), List.mem_of_getElem? (i := 1109) (by decide +kernel), List.mem_of_getElem? (i := 1110) (by decide +kernel)⟩
theorem lw_p39 : lw_okq (⟨"StrawButtsModel", "numberHere", "(II)Z"⟩, 39) := ⟨⟨by decide +kernel, by decide +kernel⟩, List.mem_of_getElem? (i := 923) (by decide +kernel), List.mem_of_getElem? (i := 1113) (by decide +kernel), List.mem_of_getElem? (i := 1114) (by decide +kernel)⟩
theorem lw_p40 : lw_okq (⟨"StrawButtsModel", "isDigit", "(I)Z"⟩, 39) := ⟨⟨by decide +kernel, by decide +kernel⟩, List.mem_of_getElem? (i := 923) (by decide +kernel), List.mem_of_getElem? (i := 1117) (by decide +kernel), List.mem_of_getElem? (i := 1118) (by decide +kernel)⟩
theorem lw_p41 : lw_okq (⟨"StrawButtsModel", "isWindHere", "(I)Z"⟩, 39) := ⟨⟨by decide +kernel, by decide +kernel⟩, List.mem_of_getElem? (i := 923) (by decide +kernel), List.mem_of_getElem? (i := 1124) (by decide +kernel), List.mem_of_getElem? (i := 1125) (by decide +kernel)⟩
theorem lw_p42 : lw_okq (⟨"StrawButtsModel", "isRingHere", "(I)Z"⟩, 39) := ⟨⟨by decide +kernel, by decide +kernel⟩, List.mem_of_getElem? (i := 923) (by decide +kernel), List.mem_of_getElem? (i := 1128) (by decide +kernel), List.mem_of_getElem? (i := 1129) (by decide +kernel)⟩
theorem lw_p43 : lw_okq (⟨"StrawButtsModel", "isTaken", "(I)Z"⟩, 39) := ⟨⟨by decide +kernel, by decide +kernel⟩, List.mem_of_getElem? (i := 923) (by decide +kernel), List.mem_of_getElem? (i := 1132) (by decide +kernel), List.mem_of_getElem? (i := 1133) (by decide +kernel)⟩
theorem lw_p44 : lw_okq (⟨"StrawButtsModel", "isArcherHere", "(I)Z"⟩, 39) := ⟨⟨by decide +kernel, by decide +kernel⟩, List.mem_of_getElem? (i := 923) (by decide +kernel), List.mem_of_getElem? (i := 1136) (by decide +kernel), List.mem_of_getElem? (i := 1137) (by decide +kernel)⟩
theorem lw_p45 : lw_okq (⟨"StrawButtsModel", "isAimHere", "()Z"⟩, 39) := ⟨⟨by decide +kernel, by decide +kernel⟩, List.mem_of_getElem? (i := 923) (by decide +kernel), List.mem_of_getElem? (i := 1140) (by decide +kernel), List.mem_of_getElem? (i := 1141) (by decide +kernel)⟩
theorem lw_p46 : lw_okq (⟨"StrawButtsModel", "sum", "()Z"⟩, 39) := ⟨⟨by decide +kernel, by decide +kernel⟩, List.mem_of_getElem? (i := 923) (by decide +kernel), List.mem_of_getElem? (i := 1144) (by decide +kernel), List.mem_of_getElem? (i := 1145) (by decide +kernel)⟩
theorem lw_p47 : lw_okq (⟨"StrawButtsModel", "term", "()Z"⟩, 39) := ⟨⟨by decide +kernel, by decide +kernel⟩, List.mem_of_getElem? (i := 923) (by decide +kernel), List.mem_of_getElem? (i := 1148) (by decide +kernel), List.mem_of_getElem? (i := 1149) (by decide +kernel)⟩
def lw_privs_3 : List (MethodName × Nat) := [(⟨"StrawButtsModel", "isWord", "(J)Z"⟩, 39), (⟨"StrawButtsModel", "isLetter", "(I)Z"⟩, 39), (⟨"StrawButtsModel", "fails", "(II)Z"⟩, 39), (⟨"StrawButtsModel", "greenLineHere", "(I)Z"⟩, 39), (⟨"StrawButtsModel", "isGreenHere", "(I)Z"⟩, 39), (⟨"StrawButtsModel", "passWord", "()V"⟩, 39), (⟨"StrawButtsModel", "cellHere", "(III)Z"⟩, 39), (⟨"StrawButtsModel", "numberHere", "(II)Z"⟩, 39), (⟨"StrawButtsModel", "isDigit", "(I)Z"⟩, 39), (⟨"StrawButtsModel", "isWindHere", "(I)Z"⟩, 39), (⟨"StrawButtsModel", "isRingHere", "(I)Z"⟩, 39), (⟨"StrawButtsModel", "isTaken", "(I)Z"⟩, 39), (⟨"StrawButtsModel", "isArcherHere", "(I)Z"⟩, 39), (⟨"StrawButtsModel", "isAimHere", "()Z"⟩, 39), (⟨"StrawButtsModel", "sum", "()Z"⟩, 39), (⟨"StrawButtsModel", "term", "()Z"⟩, 39)]
theorem lw_r3 : ∀ q ∈ lw_privs_3, lw_okq q := List.forall_mem_cons.mpr ⟨lw_p32, List.forall_mem_cons.mpr ⟨lw_p33, List.forall_mem_cons.mpr ⟨lw_p34, List.forall_mem_cons.mpr ⟨lw_p35, List.forall_mem_cons.mpr ⟨lw_p36, List.forall_mem_cons.mpr ⟨lw_p37, List.forall_mem_cons.mpr ⟨lw_p38, List.forall_mem_cons.mpr ⟨lw_p39, List.forall_mem_cons.mpr ⟨lw_p40, List.forall_mem_cons.mpr ⟨lw_p41, List.forall_mem_cons.mpr ⟨lw_p42, List.forall_mem_cons.mpr ⟨lw_p43, List.forall_mem_cons.mpr ⟨lw_p44, List.forall_mem_cons.mpr ⟨lw_p45, List.forall_mem_cons.mpr ⟨lw_p46, List.forall_mem_cons.mpr ⟨lw_p47, fun _ h => absurd h List.not_mem_nil⟩⟩⟩⟩⟩⟩⟩⟩⟩⟩⟩⟩⟩⟩⟩⟩
theorem lw_p48 : lw_okq (⟨"StrawButtsModel", "value", "()Z"⟩, 39) := ⟨⟨by decide +kernel, by decide +kernel⟩, List.mem_of_getElem? (i := 923) (by decide +kernel), List.mem_of_getElem? (i := 1152) (by decide +kernel), List.mem_of_getElem? (i := 1153) (by decide +kernel)⟩
theorem lw_p49 : lw_okq (⟨"StrawButtsModel", "makes", "(I)Z"⟩, 39) := ⟨⟨by decide +kernel, by decide +kernel⟩, List.mem_of_getElem? (i := 923) (by decide +kernel), List.mem_of_getElem? (i := 1157) (by decide +kernel), List.mem_of_getElem? (i := 1158) (by decide +kernel)⟩
theorem lw_p50 : lw_okq (⟨"StrawButtsModel", "puts", "(II)V"⟩, 39) := ⟨⟨by decide +kernel, by decide +kernel⟩, List.mem_of_getElem? (i := 923) (by decide +kernel), List.mem_of_getElem? (i := 1161) (by decide +kernel), List.mem_of_getElem? (i := 1162) (by decide +kernel)⟩
theorem lw_p51 : lw_okq (⟨"StrawButtsModel", "wordHere", "()I"⟩, 39) := ⟨⟨by decide +kernel, by decide +kernel⟩, List.mem_of_getElem? (i := 923) (by decide +kernel), List.mem_of_getElem? (i := 1165) (by decide +kernel), List.mem_of_getElem? (i := 1166) (by decide +kernel)⟩
theorem lw_p52 : lw_okq (⟨"StrawButtsModel", "takesWord", "(J)Z"⟩, 39) := ⟨⟨by decide +kernel, by decide +kernel⟩, List.mem_of_getElem? (i := 923) (by decide +kernel), List.mem_of_getElem? (i := 1180) (by decide +kernel), List.mem_of_getElem? (i := 1181) (by decide +kernel)⟩
theorem lw_p53 : lw_okq (⟨"StrawButtsModel", "tested", "()Z"⟩, 39) := ⟨⟨by decide +kernel, by decide +kernel⟩, List.mem_of_getElem? (i := 923) (by decide +kernel), List.mem_of_getElem? (i := 1184) (by decide +kernel), List.mem_of_getElem? (i := 1185) (by decide +kernel)⟩
theorem lw_p54 : lw_okq (⟨"StrawButtsModel", "fact", "()Z"⟩, 39) := ⟨⟨by decide +kernel, by decide +kernel⟩, List.mem_of_getElem? (i := 923) (by decide +kernel), List.mem_of_getElem? (i := 1188) (by decide +kernel), List.mem_of_getElem? (i := 1189) (by decide +kernel)⟩
theorem lw_p55 : lw_okq (⟨"StrawButtsModel", "opens", "(I)Z"⟩, 39) := ⟨⟨by decide +kernel, by decide +kernel⟩, List.mem_of_getElem? (i := 923) (by decide +kernel), List.mem_of_getElem? (i := 1193) (by decide +kernel), List.mem_of_getElem? (i := 1194) (by decide +kernel)⟩
theorem lw_p56 : lw_okq (⟨"StrawButtsModel", "compare", "()Z"⟩, 39) := ⟨⟨by decide +kernel, by decide +kernel⟩, List.mem_of_getElem? (i := 923) (by decide +kernel), List.mem_of_getElem? (i := 1197) (by decide +kernel), List.mem_of_getElem? (i := 1198) (by decide +kernel)⟩
theorem lw_p57 : lw_okq (⟨"StrawButtsModel", "closes", "()V"⟩, 39) := ⟨⟨by decide +kernel, by decide +kernel⟩, List.mem_of_getElem? (i := 923) (by decide +kernel), List.mem_of_getElem? (i := 1201) (by decide +kernel), List.mem_of_getElem? (i := 1202) (by decide +kernel)⟩
theorem lw_p58 : lw_okq (⟨"StrawButtsModel", "layDown", "(I)V"⟩, 39) := ⟨⟨by decide +kernel, by decide +kernel⟩, List.mem_of_getElem? (i := 923) (by decide +kernel), List.mem_of_getElem? (i := 1205) (by decide +kernel), List.mem_of_getElem? (i := 1206) (by decide +kernel)⟩
theorem lw_p59 : lw_okq (⟨"StrawButtsModel", "isInside", "()Z"⟩, 39) := ⟨⟨by decide +kernel, by decide +kernel⟩, List.mem_of_getElem? (i := 923) (by decide +kernel), List.mem_of_getElem? (i := 1212) (by decide +kernel), List.mem_of_getElem? (i := 1213) (by decide +kernel)⟩
theorem lw_p60 : lw_okq (⟨"StrawButtsModel", "begins", "()V"⟩, 39) := ⟨⟨by decide +kernel, by decide +kernel⟩, List.mem_of_getElem? (i := 923) (by decide +kernel), List.mem_of_getElem? (i := 1222) (by decide +kernel), List.mem_of_getElem? (i := 1223) (by decide +kernel)⟩
theorem lw_p61 : lw_okq (⟨"StrawButtsModel", "isRule", "(I)Z"⟩, 39) := ⟨⟨by decide +kernel, by decide +kernel⟩, List.mem_of_getElem? (i := 923) (by decide +kernel), List.mem_of_getElem? (i := 1230) (by decide +kernel), List.mem_of_getElem? (i := 1231) (by decide +kernel)⟩
theorem lw_p62 : lw_okq (⟨"StrawButtsModel", "isRing", "(I)Z"⟩, 39) := ⟨⟨by decide +kernel, by decide +kernel⟩, List.mem_of_getElem? (i := 923) (by decide +kernel), List.mem_of_getElem? (i := 1238) (by decide +kernel), List.mem_of_getElem? (i := 1239) (by decide +kernel)⟩
theorem lw_p63 : lw_okq (⟨"StrawButtsModel", "isArcher", "(I)Z"⟩, 39) := ⟨⟨by decide +kernel, by decide +kernel⟩, List.mem_of_getElem? (i := 923) (by decide +kernel), List.mem_of_getElem? (i := 1247) (by decide +kernel), List.mem_of_getElem? (i := 1248) (by decide +kernel)⟩
def lw_privs_4 : List (MethodName × Nat) := [(⟨"StrawButtsModel", "value", "()Z"⟩, 39), (⟨"StrawButtsModel", "makes", "(I)Z"⟩, 39), (⟨"StrawButtsModel", "puts", "(II)V"⟩, 39), (⟨"StrawButtsModel", "wordHere", "()I"⟩, 39), (⟨"StrawButtsModel", "takesWord", "(J)Z"⟩, 39), (⟨"StrawButtsModel", "tested", "()Z"⟩, 39), (⟨"StrawButtsModel", "fact", "()Z"⟩, 39), (⟨"StrawButtsModel", "opens", "(I)Z"⟩, 39), (⟨"StrawButtsModel", "compare", "()Z"⟩, 39), (⟨"StrawButtsModel", "closes", "()V"⟩, 39), (⟨"StrawButtsModel", "layDown", "(I)V"⟩, 39), (⟨"StrawButtsModel", "isInside", "()Z"⟩, 39), (⟨"StrawButtsModel", "begins", "()V"⟩, 39), (⟨"StrawButtsModel", "isRule", "(I)Z"⟩, 39), (⟨"StrawButtsModel", "isRing", "(I)Z"⟩, 39), (⟨"StrawButtsModel", "isArcher", "(I)Z"⟩, 39)]
theorem lw_r4 : ∀ q ∈ lw_privs_4, lw_okq q := List.forall_mem_cons.mpr ⟨lw_p48, List.forall_mem_cons.mpr ⟨lw_p49, List.forall_mem_cons.mpr ⟨lw_p50, List.forall_mem_cons.mpr ⟨lw_p51, List.forall_mem_cons.mpr ⟨lw_p52, List.forall_mem_cons.mpr ⟨lw_p53, List.forall_mem_cons.mpr ⟨lw_p54, List.forall_mem_cons.mpr ⟨lw_p55, List.forall_mem_cons.mpr ⟨lw_p56, List.forall_mem_cons.mpr ⟨lw_p57, List.forall_mem_cons.mpr ⟨lw_p58, List.forall_mem_cons.mpr ⟨lw_p59, List.forall_mem_cons.mpr ⟨lw_p60, List.forall_mem_cons.mpr ⟨lw_p61, List.forall_mem_cons.mpr ⟨lw_p62, List.forall_mem_cons.mpr ⟨lw_p63, fun _ h => absurd h List.not_mem_nil⟩⟩⟩⟩⟩⟩⟩⟩⟩⟩⟩⟩⟩⟩⟩⟩
theorem lw_p64 : lw_okq (⟨"StrawButtsModel", "skillOf", "(I)I"⟩, 39) := ⟨⟨by decide +kernel, by decide +kernel⟩, List.mem_of_getElem? (i := 923) (by decide +kernel), List.mem_of_getElem? (i := 1251) (by decide +kernel), List.mem_of_getElem? (i := 1252) (by decide +kernel)⟩
theorem lw_p65 : lw_okq (⟨"StrawButtsModel", "illOf", "(I)I"⟩, 39) := ⟨⟨by decide +kernel, by decide +kernel⟩, List.mem_of_getElem? (i := 923) (by decide +kernel), List.mem_of_getElem? (i := 1255) (by decide +kernel), List.mem_of_getElem? (i := 1256) (by decide +kernel)⟩
theorem lw_p66 : lw_okq (⟨"StrawButtsModel", "arrowsOf", "(I)I"⟩, 39) := ⟨⟨by decide +kernel, by decide +kernel⟩, List.mem_of_getElem? (i := 923) (by decide +kernel), List.mem_of_getElem? (i := 1259) (by decide +kernel), List.mem_of_getElem? (i := 1260) (by decide +kernel)⟩
theorem lw_p67 : lw_okq (⟨"StrawButtsModel", "comingRound", "()I"⟩, 39) := ⟨⟨by decide +kernel, by decide +kernel⟩, List.mem_of_getElem? (i := 923) (by decide +kernel), List.mem_of_getElem? (i := 1267) (by decide +kernel), List.mem_of_getElem? (i := 1268) (by decide +kernel)⟩
theorem lw_p68 : lw_okq (⟨"StrawButtsModel", "isGreen", "()Z"⟩, 39) := ⟨⟨by decide +kernel, by decide +kernel⟩, List.mem_of_getElem? (i := 923) (by decide +kernel), List.mem_of_getElem? (i := 1271) (by decide +kernel), List.mem_of_getElem? (i := 1272) (by decide +kernel)⟩
theorem lw_p69 : lw_okq (⟨"StrawButtsModel", "windOn", "(I)I"⟩, 39) := ⟨⟨by decide +kernel, by decide +kernel⟩, List.mem_of_getElem? (i := 923) (by decide +kernel), List.mem_of_getElem? (i := 1275) (by decide +kernel), List.mem_of_getElem? (i := 1276) (by decide +kernel)⟩
theorem lw_p70 : lw_okq (⟨"StrawButtsModel", "keepsAct", "()V"⟩, 39) := ⟨⟨by decide +kernel, by decide +kernel⟩, List.mem_of_getElem? (i := 923) (by decide +kernel), List.mem_of_getElem? (i := 1287) (by decide +kernel), List.mem_of_getElem? (i := 1288) (by decide +kernel)⟩
theorem lw_p71 : lw_okq (⟨"StrawButtsModel", "passes", "()I"⟩, 39) := ⟨⟨by decide +kernel, by decide +kernel⟩, List.mem_of_getElem? (i := 923) (by decide +kernel), List.mem_of_getElem? (i := 1291) (by decide +kernel), List.mem_of_getElem? (i := 1292) (by decide +kernel)⟩
theorem lw_p72 : lw_okq (⟨"StrawButtsModel", "turnOf", "(I)Z"⟩, 39) := ⟨⟨by decide +kernel, by decide +kernel⟩, List.mem_of_getElem? (i := 923) (by decide +kernel), List.mem_of_getElem? (i := 1295) (by decide +kernel), List.mem_of_getElem? (i := 1296) (by decide +kernel)⟩
theorem lw_p73 : lw_okq (⟨"StrawButtsModel", "choice", "(I)I"⟩, 39) := ⟨⟨by decide +kernel, by decide +kernel⟩, List.mem_of_getElem? (i := 923) (by decide +kernel), List.mem_of_getElem? (i := 1299) (by decide +kernel), List.mem_of_getElem? (i := 1300) (by decide +kernel)⟩
theorem lw_p74 : lw_okq (⟨"StrawButtsModel", "sumOf", "(II)J"⟩, 39) := ⟨⟨by decide +kernel, by decide +kernel⟩, List.mem_of_getElem? (i := 923) (by decide +kernel), List.mem_of_getElem? (i := 1303) (by decide +kernel), List.mem_of_getElem? (i := 1304) (by decide +kernel)⟩
theorem lw_p75 : lw_okq (⟨"StrawButtsModel", "windNow", "()I"⟩, 39) := ⟨⟨by decide +kernel, by decide +kernel⟩, List.mem_of_getElem? (i := 923) (by decide +kernel), List.mem_of_getElem? (i := 1307) (by decide +kernel), List.mem_of_getElem? (i := 1308) (by decide +kernel)⟩
theorem lw_p76 : lw_okq (⟨"StrawButtsModel", "driftOf", "(I)I"⟩, 39) := ⟨⟨by decide +kernel, by decide +kernel⟩, List.mem_of_getElem? (i := 923) (by decide +kernel), List.mem_of_getElem? (i := 1311) (by decide +kernel), List.mem_of_getElem? (i := 1312) (by decide +kernel)⟩
theorem lw_p77 : lw_okq (⟨"StrawButtsModel", "summedBy", "(I)J"⟩, 39) := ⟨⟨by decide +kernel, by decide +kernel⟩, List.mem_of_getElem? (i := 923) (by decide +kernel), List.mem_of_getElem? (i := 1315) (by decide +kernel), List.mem_of_getElem? (i := 1316) (by decide +kernel)⟩
theorem lw_p78 : lw_okq (⟨"StrawButtsModel", "reckons", "(III)J"⟩, 39) := ⟨⟨by decide +kernel, by decide +kernel⟩, List.mem_of_getElem? (i := 923) (by decide +kernel), List.mem_of_getElem? (i := 1319) (by decide +kernel), List.mem_of_getElem? (i := 1320) (by decide +kernel)⟩
theorem lw_p79 : lw_okq (⟨"StrawButtsModel", "push", "(J)V"⟩, 39) := ⟨⟨by decide +kernel, by decide +kernel⟩, List.mem_of_getElem? (i := 923) (by decide +kernel), List.mem_of_getElem? (i := 1323) (by decide +kernel), List.mem_of_getElem? (i := 1324) (by decide +kernel)⟩
def lw_privs_5 : List (MethodName × Nat) := [(⟨"StrawButtsModel", "skillOf", "(I)I"⟩, 39), (⟨"StrawButtsModel", "illOf", "(I)I"⟩, 39), (⟨"StrawButtsModel", "arrowsOf", "(I)I"⟩, 39), (⟨"StrawButtsModel", "comingRound", "()I"⟩, 39), (⟨"StrawButtsModel", "isGreen", "()Z"⟩, 39), (⟨"StrawButtsModel", "windOn", "(I)I"⟩, 39), (⟨"StrawButtsModel", "keepsAct", "()V"⟩, 39), (⟨"StrawButtsModel", "passes", "()I"⟩, 39), (⟨"StrawButtsModel", "turnOf", "(I)Z"⟩, 39), (⟨"StrawButtsModel", "choice", "(I)I"⟩, 39), (⟨"StrawButtsModel", "sumOf", "(II)J"⟩, 39), (⟨"StrawButtsModel", "windNow", "()I"⟩, 39), (⟨"StrawButtsModel", "driftOf", "(I)I"⟩, 39), (⟨"StrawButtsModel", "summedBy", "(I)J"⟩, 39), (⟨"StrawButtsModel", "reckons", "(III)J"⟩, 39), (⟨"StrawButtsModel", "push", "(J)V"⟩, 39)]
theorem lw_r5 : ∀ q ∈ lw_privs_5, lw_okq q := List.forall_mem_cons.mpr ⟨lw_p64, List.forall_mem_cons.mpr ⟨lw_p65, List.forall_mem_cons.mpr ⟨lw_p66, List.forall_mem_cons.mpr ⟨lw_p67, List.forall_mem_cons.mpr ⟨lw_p68, List.forall_mem_cons.mpr ⟨lw_p69, List.forall_mem_cons.mpr ⟨lw_p70, List.forall_mem_cons.mpr ⟨lw_p71, List.forall_mem_cons.mpr ⟨lw_p72, List.forall_mem_cons.mpr ⟨lw_p73, List.forall_mem_cons.mpr ⟨lw_p74, List.forall_mem_cons.mpr ⟨lw_p75, List.forall_mem_cons.mpr ⟨lw_p76, List.forall_mem_cons.mpr ⟨lw_p77, List.forall_mem_cons.mpr ⟨lw_p78, List.forall_mem_cons.mpr ⟨lw_p79, fun _ h => absurd h List.not_mem_nil⟩⟩⟩⟩⟩⟩⟩⟩⟩⟩⟩⟩⟩⟩⟩⟩
theorem lw_p80 : lw_okq (⟨"StrawButtsModel", "pop", "()J"⟩, 39) := ⟨⟨by decide +kernel, by decide +kernel⟩, List.mem_of_getElem? (i := 923) (by decide +kernel), List.mem_of_getElem? (i := 1327) (by decide +kernel), List.mem_of_getElem? (i := 1328) (by decide +kernel)⟩
theorem lw_p81 : lw_okq (⟨"StrawButtsModel", "shoots", "(II)I"⟩, 39) := ⟨⟨by decide +kernel, by decide +kernel⟩, List.mem_of_getElem? (i := 923) (by decide +kernel), List.mem_of_getElem? (i := 1334) (by decide +kernel), List.mem_of_getElem? (i := 1335) (by decide +kernel)⟩
theorem lw_p82 : lw_okq (⟨"StrawButtsModel", "downOf", "(II)I"⟩, 39) := ⟨⟨by decide +kernel, by decide +kernel⟩, List.mem_of_getElem? (i := 923) (by decide +kernel), List.mem_of_getElem? (i := 1338) (by decide +kernel), List.mem_of_getElem? (i := 1339) (by decide +kernel)⟩
theorem lw_p83 : lw_okq (⟨"StrawButtsModel", "ringAt", "(I)I"⟩, 39) := ⟨⟨by decide +kernel, by decide +kernel⟩, List.mem_of_getElem? (i := 923) (by decide +kernel), List.mem_of_getElem? (i := 1342) (by decide +kernel), List.mem_of_getElem? (i := 1343) (by decide +kernel)⟩
theorem lw_p84 : lw_okq (⟨"StrawButtsModel", "eases1", "(I)V"⟩, 39) := ⟨⟨by decide +kernel, by decide +kernel⟩, List.mem_of_getElem? (i := 923) (by decide +kernel), List.mem_of_getElem? (i := 1346) (by decide +kernel), List.mem_of_getElem? (i := 1347) (by decide +kernel)⟩
theorem lw_p85 : lw_okq (⟨"StrawButtsModel", "keeps", "()V"⟩, 39) := ⟨⟨by decide +kernel, by decide +kernel⟩, List.mem_of_getElem? (i := 923) (by decide +kernel), List.mem_of_getElem? (i := 1373) (by decide +kernel), List.mem_of_getElem? (i := 1374) (by decide +kernel)⟩
theorem lw_p86 : lw_okq (⟨"StrawButtsModel", "passesAll", "(I)V"⟩, 39) := ⟨⟨by decide +kernel, by decide +kernel⟩, List.mem_of_getElem? (i := 923) (by decide +kernel), List.mem_of_getElem? (i := 1377) (by decide +kernel), List.mem_of_getElem? (i := 1378) (by decide +kernel)⟩
theorem lw_p87 : lw_okq (⟨"StrawButtsModel", "laysBack", "()V"⟩, 39) := ⟨⟨by decide +kernel, by decide +kernel⟩, List.mem_of_getElem? (i := 923) (by decide +kernel), List.mem_of_getElem? (i := 1381) (by decide +kernel), List.mem_of_getElem? (i := 1382) (by decide +kernel)⟩
theorem lw_p88 : lw_okq (⟨"StrawButtsModel", "easedIn", "(I)I"⟩, 39) := ⟨⟨by decide +kernel, by decide +kernel⟩, List.mem_of_getElem? (i := 923) (by decide +kernel), List.mem_of_getElem? (i := 1389) (by decide +kernel), List.mem_of_getElem? (i := 1390) (by decide +kernel)⟩
theorem lw_p89 : lw_okq (⟨"StrawButtsModel", "sumOver", "(I)I"⟩, 39) := ⟨⟨by decide +kernel, by decide +kernel⟩, List.mem_of_getElem? (i := 923) (by decide +kernel), List.mem_of_getElem? (i := 1393) (by decide +kernel), List.mem_of_getElem? (i := 1394) (by decide +kernel)⟩
theorem lw_p90 : lw_okq (⟨"StrawButtsModel", "easeBy", "(II)I"⟩, 39) := ⟨⟨by decide +kernel, by decide +kernel⟩, List.mem_of_getElem? (i := 923) (by decide +kernel), List.mem_of_getElem? (i := 1409) (by decide +kernel), List.mem_of_getElem? (i := 1410) (by decide +kernel)⟩
theorem lw_p91 : lw_okq (⟨"StrawButtsModel", "findsRow", "(II)I"⟩, 39) := ⟨⟨by decide +kernel, by decide +kernel⟩, List.mem_of_getElem? (i := 923) (by decide +kernel), List.mem_of_getElem? (i := 1418) (by decide +kernel), List.mem_of_getElem? (i := 1419) (by decide +kernel)⟩
theorem lw_p92 : lw_okq (⟨"StrawButtsModel", "arrowsIn", "(I)I"⟩, 39) := ⟨⟨by decide +kernel, by decide +kernel⟩, List.mem_of_getElem? (i := 923) (by decide +kernel), List.mem_of_getElem? (i := 1422) (by decide +kernel), List.mem_of_getElem? (i := 1423) (by decide +kernel)⟩
theorem lw_p93 : lw_okq (⟨"StrawButtsModel", "easeByRow", "(II)I"⟩, 39) := ⟨⟨by decide +kernel, by decide +kernel⟩, List.mem_of_getElem? (i := 923) (by decide +kernel), List.mem_of_getElem? (i := 1426) (by decide +kernel), List.mem_of_getElem? (i := 1427) (by decide +kernel)⟩
theorem lw_p94 : lw_okq (⟨"StrawButtsModel", "nextRow", "(I)Z"⟩, 39) := ⟨⟨by decide +kernel, by decide +kernel⟩, List.mem_of_getElem? (i := 923) (by decide +kernel), List.mem_of_getElem? (i := 1430) (by decide +kernel), List.mem_of_getElem? (i := 1431) (by decide +kernel)⟩
theorem lw_p95 : lw_okq (⟨"StrawButtsModel", "easeIn", "(I)I"⟩, 39) := ⟨⟨by decide +kernel, by decide +kernel⟩, List.mem_of_getElem? (i := 923) (by decide +kernel), List.mem_of_getElem? (i := 1447) (by decide +kernel), List.mem_of_getElem? (i := 1448) (by decide +kernel)⟩
def lw_privs_6 : List (MethodName × Nat) := [(⟨"StrawButtsModel", "pop", "()J"⟩, 39), (⟨"StrawButtsModel", "shoots", "(II)I"⟩, 39), (⟨"StrawButtsModel", "downOf", "(II)I"⟩, 39), (⟨"StrawButtsModel", "ringAt", "(I)I"⟩, 39), (⟨"StrawButtsModel", "eases1", "(I)V"⟩, 39), (⟨"StrawButtsModel", "keeps", "()V"⟩, 39), (⟨"StrawButtsModel", "passesAll", "(I)V"⟩, 39), (⟨"StrawButtsModel", "laysBack", "()V"⟩, 39), (⟨"StrawButtsModel", "easedIn", "(I)I"⟩, 39), (⟨"StrawButtsModel", "sumOver", "(I)I"⟩, 39), (⟨"StrawButtsModel", "easeBy", "(II)I"⟩, 39), (⟨"StrawButtsModel", "findsRow", "(II)I"⟩, 39), (⟨"StrawButtsModel", "arrowsIn", "(I)I"⟩, 39), (⟨"StrawButtsModel", "easeByRow", "(II)I"⟩, 39), (⟨"StrawButtsModel", "nextRow", "(I)Z"⟩, 39), (⟨"StrawButtsModel", "easeIn", "(I)I"⟩, 39)]
theorem lw_r6 : ∀ q ∈ lw_privs_6, lw_okq q := List.forall_mem_cons.mpr ⟨lw_p80, List.forall_mem_cons.mpr ⟨lw_p81, List.forall_mem_cons.mpr ⟨lw_p82, List.forall_mem_cons.mpr ⟨lw_p83, List.forall_mem_cons.mpr ⟨lw_p84, List.forall_mem_cons.mpr ⟨lw_p85, List.forall_mem_cons.mpr ⟨lw_p86, List.forall_mem_cons.mpr ⟨lw_p87, List.forall_mem_cons.mpr ⟨lw_p88, List.forall_mem_cons.mpr ⟨lw_p89, List.forall_mem_cons.mpr ⟨lw_p90, List.forall_mem_cons.mpr ⟨lw_p91, List.forall_mem_cons.mpr ⟨lw_p92, List.forall_mem_cons.mpr ⟨lw_p93, List.forall_mem_cons.mpr ⟨lw_p94, List.forall_mem_cons.mpr ⟨lw_p95, fun _ h => absurd h List.not_mem_nil⟩⟩⟩⟩⟩⟩⟩⟩⟩⟩⟩⟩⟩⟩⟩⟩
theorem lw_p96 : lw_okq (⟨"StrawButtsModel", "givesAll", "(I)V"⟩, 39) := ⟨⟨by decide +kernel, by decide +kernel⟩, List.mem_of_getElem? (i := 923) (by decide +kernel), List.mem_of_getElem? (i := 1455) (by decide +kernel), List.mem_of_getElem? (i := 1456) (by decide +kernel)⟩
theorem lw_p97 : lw_okq (⟨"StrawButtsModel", "fillsRest", "(IIIII)V"⟩, 39) := ⟨⟨by decide +kernel, by decide +kernel⟩, List.mem_of_getElem? (i := 923) (by decide +kernel), List.mem_of_getElem? (i := 1463) (by decide +kernel), List.mem_of_getElem? (i := 1464) (by decide +kernel)⟩
theorem lw_p98 : lw_okq (⟨"StrawButtsModel", "hasThen", "(II)I"⟩, 39) := ⟨⟨by decide +kernel, by decide +kernel⟩, List.mem_of_getElem? (i := 923) (by decide +kernel), List.mem_of_getElem? (i := 1467) (by decide +kernel), List.mem_of_getElem? (i := 1468) (by decide +kernel)⟩
theorem lw_p99 : lw_okq (⟨"StrawButtsModel", "isRest", "(II)Z"⟩, 39) := ⟨⟨by decide +kernel, by decide +kernel⟩, List.mem_of_getElem? (i := 923) (by decide +kernel), List.mem_of_getElem? (i := 1471) (by decide +kernel), List.mem_of_getElem? (i := 1472) (by decide +kernel)⟩
theorem lw_p100 : lw_okq (⟨"StrawButtsModel", "fillsFits", "(I)V"⟩, 39) := ⟨⟨by decide +kernel, by decide +kernel⟩, List.mem_of_getElem? (i := 923) (by decide +kernel), List.mem_of_getElem? (i := 1489) (by decide +kernel), List.mem_of_getElem? (i := 1490) (by decide +kernel)⟩
theorem lw_p101 : lw_okq (⟨"StrawButtsModel", "areAllSo", "(II)Z"⟩, 39) := ⟨⟨by decide +kernel, by decide +kernel⟩, List.mem_of_getElem? (i := 923) (by decide +kernel), List.mem_of_getElem? (i := 1493) (by decide +kernel), List.mem_of_getElem? (i := 1494) (by decide +kernel)⟩
theorem lw_p102 : lw_okq (⟨"StrawButtsModel", "areNotesSo", "(I)Z"⟩, 39) := ⟨⟨by decide +kernel, by decide +kernel⟩, List.mem_of_getElem? (i := 923) (by decide +kernel), List.mem_of_getElem? (i := 1497) (by decide +kernel), List.mem_of_getElem? (i := 1498) (by decide +kernel)⟩
theorem lw_p103 : lw_okq (⟨"StrawButtsModel", "alikeAt", "(I)I"⟩, 39) := ⟨⟨by decide +kernel, by decide +kernel⟩, List.mem_of_getElem? (i := 923) (by decide +kernel), List.mem_of_getElem? (i := 1505) (by decide +kernel), List.mem_of_getElem? (i := 1506) (by decide +kernel)⟩
theorem lw_p104 : lw_okq (⟨"StrawButtsModel", "canBe", "(III)I"⟩, 39) := ⟨⟨by decide +kernel, by decide +kernel⟩, List.mem_of_getElem? (i := 923) (by decide +kernel), List.mem_of_getElem? (i := 1513) (by decide +kernel), List.mem_of_getElem? (i := 1514) (by decide +kernel)⟩
theorem lw_p105 : lw_okq (⟨"StrawButtsModel", "draw", "(I)I"⟩, 39) := ⟨⟨by decide +kernel, by decide +kernel⟩, List.mem_of_getElem? (i := 923) (by decide +kernel), List.mem_of_getElem? (i := 1530) (by decide +kernel), List.mem_of_getElem? (i := 1531) (by decide +kernel)⟩
def lw_privs_7 : List (MethodName × Nat) := [(⟨"StrawButtsModel", "givesAll", "(I)V"⟩, 39), (⟨"StrawButtsModel", "fillsRest", "(IIIII)V"⟩, 39), (⟨"StrawButtsModel", "hasThen", "(II)I"⟩, 39), (⟨"StrawButtsModel", "isRest", "(II)Z"⟩, 39), (⟨"StrawButtsModel", "fillsFits", "(I)V"⟩, 39), (⟨"StrawButtsModel", "areAllSo", "(II)Z"⟩, 39), (⟨"StrawButtsModel", "areNotesSo", "(I)Z"⟩, 39), (⟨"StrawButtsModel", "alikeAt", "(I)I"⟩, 39), (⟨"StrawButtsModel", "canBe", "(III)I"⟩, 39), (⟨"StrawButtsModel", "draw", "(I)I"⟩, 39)]
theorem lw_r7 : ∀ q ∈ lw_privs_7, lw_okq q := List.forall_mem_cons.mpr ⟨lw_p96, List.forall_mem_cons.mpr ⟨lw_p97, List.forall_mem_cons.mpr ⟨lw_p98, List.forall_mem_cons.mpr ⟨lw_p99, List.forall_mem_cons.mpr ⟨lw_p100, List.forall_mem_cons.mpr ⟨lw_p101, List.forall_mem_cons.mpr ⟨lw_p102, List.forall_mem_cons.mpr ⟨lw_p103, List.forall_mem_cons.mpr ⟨lw_p104, List.forall_mem_cons.mpr ⟨lw_p105, fun _ h => absurd h List.not_mem_nil⟩⟩⟩⟩⟩⟩⟩⟩⟩⟩
def lw_privs : List (MethodName × Nat) := lw_privs_1 ++ (lw_privs_2 ++ (lw_privs_3 ++ (lw_privs_4 ++ (lw_privs_5 ++ (lw_privs_6 ++ (lw_privs_7))))))
def lw_tbl : List Cond := k2_sels lw_privs ++ tables_1
theorem lw_privs_ok : ∀ q ∈ lw_privs, lw_okq q := by
  show ∀ q ∈ lw_privs_1 ++ (lw_privs_2 ++ (lw_privs_3 ++ (lw_privs_4 ++ (lw_privs_5 ++ (lw_privs_6 ++ (lw_privs_7)))))), lw_okq q
  exact List.forall_mem_append.mpr ⟨lw_r1, List.forall_mem_append.mpr ⟨lw_r2, List.forall_mem_append.mpr ⟨lw_r3, List.forall_mem_append.mpr ⟨lw_r4, List.forall_mem_append.mpr ⟨lw_r5, List.forall_mem_append.mpr ⟨lw_r6, lw_r7⟩⟩⟩⟩⟩⟩
-- ===== end of PART A; then your names; then what follows =====
end
section
/-! ===== BEGIN words of one list among another's, by their places ===== -/
theorem goodIn_r {big : List Cond} (ws : List Cond) (ps : List Nat) (hp : ws = ps.filterMap (fun i => big[i]?)) (h : ws.all goodWord = true) : GoodIn big ws := by
  intro w hw
  have h1 := List.all_eq_true.mp h w hw
  rw [hp] at hw
  obtain ⟨i, -, hi⟩ := List.mem_filterMap.mp hw
  have hm : w ∈ big := by first | exact List.mem_of_getElem? hi | exact List.getElem?_mem hi
  exact ⟨hm, good_of_word h1⟩
theorem goodIn_app {big a b : List Cond} (ha : GoodIn big a) (hb : GoodIn big b) : GoodIn big (a ++ b) := fun w h => (List.mem_append.mp h).elim (ha w) (hb w)
theorem goodIn_ca {big a b : List Cond} {c : Cond} (ha : GoodIn big (c :: a)) (hb : GoodIn big b) : GoodIn big (c :: (a ++ b)) := fun w h => (List.mem_cons.mp h).elim (fun e => ha w (List.mem_cons.mpr (Or.inl e))) (fun h => (List.mem_append.mp h).elim (fun h => ha w (List.mem_cons.mpr (Or.inr h))) (hb w))
theorem goodIn_sub {big ws : List Cond} (hm : ∀ w ∈ ws, w ∈ big) (h : ws.all goodWord = true) : GoodIn big ws := fun w hw => ⟨hm w hw, good_of_word (List.all_eq_true.mp h w hw)⟩
/-! ===== END ===== -/

/-- an array of arrays can be made -/
def va_AOA (ty : FieldType) (U : State) : Prop := (Cond.arrayOver (.array ty)).before #[] U = true
theorem va_AOA.use {ty : FieldType} {A : Array Value} {U : State} (h : va_AOA ty U) : (Cond.arrayOver (.array ty)).before A U = true := h
theorem va_AOA.moved {ty : FieldType} {u U : State} (hvm : u.vm.Alike U.vm) (h : va_AOA ty u) : va_AOA ty U := arrayOver_alikeB hvm h
theorem va_AOA.of {ty : FieldType} {A : Array Value} {U : State} (h : (Cond.arrayOver (.array ty)).before A U = true) : va_AOA ty U := h
/-! ===== BEGIN new T[n][m]: the outer array a place, the inner ones among the pooled ===== -/
/-- f, but v at every address of l -/
def vr_up {α : Type} (f : Nat → α) (l : List Nat) (v : α) : Nat → α := fun a => if a ∈ l then v else f a
theorem vr_up_in {α : Type} {f : Nat → α} {l : List Nat} {v : α} {a : Nat} (h : a ∈ l) : vr_up f l v a = v := if_pos h
theorem vr_up_ne {α : Type} {f : Nat → α} {l : List Nat} {v : α} {a : Nat} (h : a ∉ l) : vr_up f l v a = f a := if_neg h
theorem vr_rows {L l : List Nat} {f : Nat → va_E} {e : va_E} (h : ∀ a, a ∈ l → a ∉ L) : va_pl L f ++ l.map (fun a => (a, e)) = va_pl (L ++ l) (vr_up f l e) := by
  unfold va_pl
  rw [List.map_append]
  congr 1
  · apply List.map_congr_left
    intro a ha
    rw [vr_up_ne (fun q => h a q ha)]
  · apply List.map_congr_left
    intro a ha
    rw [vr_up_in ha]
theorem vr_lay {X rows : va_W} {x : Nat × va_E} {pl : va_W} {D : va_G} {cl : List vw_C} {H : Heap} (hP : va_P D cl (((X ++ pl) ++ [x]) ++ rows) H) : va_P D cl ((X ++ [x]) ++ (pl ++ rows)) H := by
  rw [List.append_assoc (X ++ pl)] at hP
  have h := va_P.swap hP
  rw [← List.append_assoc X] at h
  have h2 := va_P.swap h
  rw [List.append_assoc (X ++ [x])] at h2
  exact h2
theorem vr_layD {X rows : va_W} {x : Nat × va_E} {pl : va_W} {A : Nat → Prop} (hD : va_D A (((X ++ pl) ++ [x]) ++ rows)) : va_D A ((X ++ [x]) ++ (pl ++ rows)) := by
  rw [List.append_assoc (X ++ pl)] at hD
  have h := va_D.swap hD
  rw [← List.append_assoc X] at h
  have h2 := va_D.swap h
  rw [List.append_assoc (X ++ [x])] at h2
  exact h2
theorem vr_outer (c : ClassId) (N h0 : Nat) : ∀ i : Nat, Jvm.Free.Multi.outerC c N h0 i = arrV c N (fun j => va_rf (if j < i then some (h0 + 1 + j) else none))
  | 0 => by
    show ({ cls := c, slots := Array.replicate N .null, vm := .none } : Cell) = _
    rw [arrV_new]
    refine congrArg (arrV c N) (funext fun j => ?_)
    simp [va_rf]
  | i + 1 => by
    show (Jvm.Free.Multi.outerC c N h0 i).setSlot i (.ref (h0 + 1 + i)) = _
    rw [vr_outer c N h0 i, arrV_store]
    refine congrArg (arrV c N) (funext fun j => ?_)
    by_cases e : j = i
    · subst e
      simp [updV, va_rf]
    · by_cases h : j < i
      · simp [updV, e, h, Nat.lt_succ_of_lt h]
      · simp [updV, e, h, show ¬ j < i + 1 by omega]
section VGM
variable {p : Program} {l : Launch} {e : Env} {R : Room} {s : State} {m : MethodId} {args : Array Value} {below : List Frame} {meth : Method} {c : Code} {H : Heap} {locs : List Loc} {cells slots : Nat} {Q : State → Prop}
variable {cc : ByteArray} {pc : Nat} {ls : Array Slot} {rest : List Value} {D : va_G} {cl : List vw_C} {A : Nat → Prop} {a : Nat} {tys : List (ClassId × FieldType)} {ws : va_W} {H0 : Heap}
theorem va_mna {X : va_W} {L : List Nat} {f : Nat → va_E} {cc : ByteArray} (hexec : p.tables.exec = Jvm.exec) (hb : c.code = cc) {own : String} {index : Nat} {ty : FieldType} {cy : ClassId} (hown : s.vm.findClass own = some m.cls) (hclink : (Cond.classLink own index ("[" ++ (FieldType.array ty).toString)).before args s = true) (hover : va_AOA ty s) (harr : (Cond.arrayClass ty).before args s = true) (hcy : s.vm.findClass (FieldType.array ty).toString = some cy)
    (hK : va_K D cl tys s) (hP : va_P D cl (X ++ va_pl L f) H) (hD : va_D A (X ++ va_pl L f)) (hS : va_S A H0 H locs) (hA : ∀ q, H0.size ≤ q → A q) {n k : Int32} {N' K' : Nat} {z : vp_A} (hn : ¬ n < 0) (hk : ¬ k < 0) (hN : n.toNatClampNeg = N') (hM : k.toNatClampNeg = K')
    (hb1 : N' * 4 ≤ 536870912) (hb2 : K' * componentBytes ty ≤ 536870912) (hb3 : K' ≤ 536870912) (hdf : fits ty (defaultValue ty) = true) (hdd : (defaultValue ty).isDefault = true) (hcells : cells + (1 + N') ≤ R.cells) (hslots : slots + (N' + N' * K') ≤ R.slots) (hz : ∀ c : ClassId, Jvm.Free.Multi.innerC c K' (defaultValue ty) = vp_cell c z) (hdg : decode cc pc = .ok (.multianewarray index 2, 4))
    (kk : ∀ (q : Nat) (r : Nat → Nat) (cA : ClassId) (H1 : Heap), (∀ i j : Nat, i < N' → j < N' → r i = r j → i = j) → (∀ i : Nat, i < N' → r i ∉ L) → va_K D cl (tys ++ [(cA, .array ty)]) s →
      va_P D cl ((X ++ [(q, .inl (cA, N', .inr (.inr (.inr (.inr (fun i => if i < N' then some (r i) else none))))))]) ++ va_pl (L ++ (List.range N').map r) (vr_up f ((List.range N').map r) (.inl (cy, z)))) H1 → va_D A ((X ++ [(q, .inl (cA, N', .inr (.inr (.inr (.inr (fun i => if i < N' then some (r i) else none))))))]) ++ va_pl (L ++ (List.range N').map r) (vr_up f ((List.range N').map r) (.inl (cy, z)))) → va_S A H0 H1 locs →
      W p l e R s m args below meth c H1 locs (cells + 1 + N') (slots + N' + N' * K') Q (F0 m (pc + 4) ls (.ref q :: rest))) : W p l e R s m args below meth c H locs cells slots Q (F0 m pc ls (.int k :: .int n :: rest)) := by
  subst hN
  subst hM
  intro T hT Xs
  obtain ⟨vm₁, cA, comp, -, fA, fC, hO, -, X', step⟩ := Xs.multianewarray2F hexec hown hclink (va_AOA.use hover) harr (g := F0 m pc ls (.int k :: .int n :: rest)) rfl (by rw [hb]; exact hdg) rfl hn hk hb1 hb2 hb3 hdf hdd hcells hslots
  have ec : some cy = some comp := hcy.symm.trans fC
  cases ec
  generalize hF : Jvm.Free.Multi.fill (T.setVm vm₁) cA cy n.toNatClampNeg k.toNatClampNeg (defaultValue ty) n.toNatClampNeg = F at X' step
  have hTh : (T.setVm vm₁).heap = H := hT
  obtain ⟨f1, f2, -, -⟩ := Jvm.Free.Multi.fill_facts (T.setVm vm₁) cA cy n.toNatClampNeg k.toNatClampNeg (defaultValue ty) n.toNatClampNeg
  rw [hF, hTh] at f1 f2
  have hold : ∀ x : Nat, x < H.size → F.heap[x]? = H[x]? := fun x hx => by
    have := Jvm.Free.Multi.fill_old (T.setVm vm₁) cA cy n.toNatClampNeg k.toNatClampNeg (defaultValue ty) (a := x) (by rw [hTh]; exact hx) n.toNatClampNeg
    rw [hF, hTh] at this
    exact this
  have hrow : ∀ j : Nat, j < n.toNatClampNeg → F.heap[H.size + 1 + j]? = some (vp_cell cy z) := fun j hj => by
    have := Jvm.Free.Multi.fill_inner (T.setVm vm₁) cA cy n.toNatClampNeg k.toNatClampNeg (defaultValue ty) n.toNatClampNeg j hj
    rw [hF, hTh, hz] at this
    exact this
  have hout : Jvm.Free.Multi.outerC cA n.toNatClampNeg H.size n.toNatClampNeg = vp_cell cA (n.toNatClampNeg, .inr (.inr (.inr (.inr (fun i => if i < n.toNatClampNeg then some (H.size + 1 + i) else none))))) := by
    rw [vp_cell_q]
    exact vr_outer cA n.toNatClampNeg H.size n.toNatClampNeg
  rw [hout] at f2
  have hlt : ∀ a, a ∈ L → a < H.size := fun a ha => by
    obtain ⟨k9, hk9⟩ := va_pl_get (X := X) (f := f) ha
    exact (hP k9 _ hk9).lt
  have hnl : ∀ i : Nat, i < n.toNatClampNeg → H.size + 1 + i ∉ L := fun i _ h => by
    have := hlt _ h
    omega
  have hnm : ∀ a, a ∈ (List.range n.toNatClampNeg).map (fun i => H.size + 1 + i) → a ∉ L := fun a ha h => by
    obtain ⟨i, -, rfl⟩ := List.mem_map.mp ha
    have := hlt _ h
    omega
  have hP0 : va_P D cl (X ++ va_pl L f) F.heap := hP.kept (fun k9 x hx => hold x.1 ((hP k9 x hx).lt))
  have hP1 : va_P D cl ((X ++ va_pl L f) ++ [(H.size, .inl (cA, n.toNatClampNeg, .inr (.inr (.inr (.inr (fun i => if i < n.toNatClampNeg then some (H.size + 1 + i) else none))))))]) F.heap := hP0.app (fun k9 x hx => by
    have h0 : k9 < 1 := (List.getElem?_eq_some_iff.mp hx).1
    rw [show k9 = 0 by omega] at hx
    cases hx
    exact f2)
  have hP2 : va_P D cl (((X ++ va_pl L f) ++ [(H.size, .inl (cA, n.toNatClampNeg, .inr (.inr (.inr (.inr (fun i => if i < n.toNatClampNeg then some (H.size + 1 + i) else none))))))]) ++ ((List.range n.toNatClampNeg).map (fun i => H.size + 1 + i)).map (fun a => (a, .inl (cy, z)))) F.heap := hP1.app (fun k9 x hx => by
    obtain ⟨a, ha, rfl⟩ := List.mem_map.mp (List.mem_of_getElem? hx)
    obtain ⟨i, hi, rfl⟩ := List.mem_map.mp ha
    exact hrow i (List.mem_range.mp hi))
  have hD2 : va_D A (((X ++ va_pl L f) ++ [(H.size, .inl (cA, n.toNatClampNeg, .inr (.inr (.inr (.inr (fun i => if i < n.toNatClampNeg then some (H.size + 1 + i) else none))))))]) ++ ((List.range n.toNatClampNeg).map (fun i => H.size + 1 + i)).map (fun a => (a, .inl (cy, z)))) := by
    have hD1 := hD.push (e := .inl (cA, n.toNatClampNeg, .inr (.inr (.inr (.inr (fun i => if i < n.toNatClampNeg then some (H.size + 1 + i) else none)))))) hP rfl (hA _ hS.1)
    generalize hW1 : (X ++ va_pl L f) ++ [(H.size, .inl (cA, n.toNatClampNeg, .inr (.inr (.inr (.inr (fun i => if i < n.toNatClampNeg then some (H.size + 1 + i) else none))))))] = W1 at hD1 hP1 ⊢
    have hle : ∀ (k9 : Nat) (x : Nat × va_E), W1[k9]? = some x → x.1 ≤ H.size := fun k9 x hx => by
      rw [← hW1] at hx
      by_cases hl : k9 < (X ++ va_pl L f).length
      · rw [List.getElem?_append_left hl] at hx
        exact Nat.le_of_lt ((hP k9 x hx).lt)
      · rw [List.getElem?_append_right (by omega)] at hx
        have h0 : k9 - (X ++ va_pl L f).length < 1 := (List.getElem?_eq_some_iff.mp hx).1
        rw [show k9 - (X ++ va_pl L f).length = 0 by omega] at hx
        cases hx
        exact Nat.le_refl _
    have hr : ∀ (k9 : Nat) (x : Nat × va_E), (((List.range n.toNatClampNeg).map (fun i => H.size + 1 + i)).map (fun a => ((a, .inl (cy, z)) : Nat × va_E)))[k9]? = some x → x.1 = H.size + 1 + k9 := fun k9 x hx => by
      rw [List.getElem?_map, List.getElem?_map] at hx
      by_cases h9 : k9 < n.toNatClampNeg
      · rw [List.getElem?_range h9] at hx
        cases hx
        rfl
      · have hn0 : (List.range n.toNatClampNeg)[k9]? = none := List.getElem?_eq_none (by rw [List.length_range]; omega)
        rw [hn0] at hx
        cases hx
    refine ⟨fun i j x y hi hj hxy => ?_, fun k9 x hx => ?_⟩
    · by_cases h1 : i < W1.length <;> by_cases h2 : j < W1.length
      · rw [List.getElem?_append_left h1] at hi
        rw [List.getElem?_append_left h2] at hj
        exact hD1.1 i j x y hi hj hxy
      · rw [List.getElem?_append_left h1] at hi
        rw [List.getElem?_append_right (by omega)] at hj
        have := hle _ _ hi
        have := hr _ _ hj
        omega
      · rw [List.getElem?_append_right (by omega)] at hi
        rw [List.getElem?_append_left h2] at hj
        have := hle _ _ hj
        have := hr _ _ hi
        omega
      · rw [List.getElem?_append_right (by omega)] at hi hj
        have := hr _ _ hi
        have := hr _ _ hj
        omega
    · by_cases h1 : k9 < W1.length
      · rw [List.getElem?_append_left h1] at hx
        exact hD1.2 k9 x hx
      · rw [List.getElem?_append_right (by omega)] at hx
        have := hr _ _ hx
        exact hA _ (by have := hS.1; omega)
  have hAr : ArrOfT s cA (.array ty) := fun N9 z9 => by
    obtain ⟨-, k9, hk9, cm9, hkk9⟩ := (hO 0 0 0).1
    exact ⟨(fun q hq => by cases hq), k9, hk9, cm9, hkk9⟩
  have hK2 : va_K D cl (tys ++ [(cA, .array ty)]) s := ⟨hK.1, fun k9 x hx => by
    by_cases hl : k9 < tys.length
    · rw [List.getElem?_append_left hl] at hx
      exact hK.2 k9 x hx
    · rw [List.getElem?_append_right (by omega)] at hx
      have h0 : k9 - tys.length < 1 := (List.getElem?_eq_some_iff.mp hx).1
      rw [show k9 - tys.length = 0 by omega] at hx
      cases hx
      exact ⟨hAr, fA⟩⟩
  obtain ⟨t, a1, b1⟩ := kk H.size (fun i => H.size + 1 + i) cA F.heap (fun i j _ _ h => by have h9 : H.size + 1 + i = H.size + 1 + j := h; omega) hnl hK2 (by rw [← vr_rows hnm]; exact vr_lay hP2) (by rw [← vr_rows hnm]; exact vr_layD hD2) ⟨by rw [f1]; have := hS.1; omega, fun x h1 h2 => (hold x (Nat.lt_of_lt_of_le h1 hS.1)).trans (hS.2.1 x h1 h2), hS.2.2⟩ F rfl X'
  refine ⟨t, step t ?_, b1⟩
  have e : T.heap.size = H.size := by rw [hT]
  rw [e]
  exact a1
end VGM
/-! ===== END ===== -/
end
section
/-! ===== BEGIN printed: names, fields, word lists, decode rows ===== -/
def RX0 : String := "StrawButts$Acts"
def TX0 : u_T := fun k => match k with
  | 0 => ("StrawButts$Acts", "rows", "[[I", true)
  | 1 => ("StrawButts$Acts", "next", "I", false)
  | _ => ("StrawButts$Acts", "size", "I", false)
def tyX0 : Nat → FieldType := fun k => match k with
  | 0 => .array (.array .int)
  | 1 => .int
  | _ => .int
abbrev wsX00 : List Cond := u_ws RX0 TX0 3
theorem nmX0 : ∀ a, a < 3 → ∀ b, b < 3 → a ≠ b → (TX0 a).2.1 ≠ (TX0 b).2.1 := by decide +kernel
theorem tyX0_ok : ∀ k, k < 3 → parseFieldDescriptor (TX0 k).2.2.1 = some (tyX0 k) := by decide +kernel
abbrev cX0_init : ByteArray := prog_2_method_1_code
def yX0_init : MethodName := ⟨RX0, "<init>", "()V"⟩
abbrev cX0_keep : ByteArray := prog_2_method_2_code
def yX0_keep : MethodName := ⟨RX0, "keep", "(LStrawButts$Field;)V"⟩
abbrev cX0_takeBack : ByteArray := prog_2_method_3_code
def yX0_takeBack : MethodName := ⟨RX0, "takeBack", "(LStrawButts$Field;)V"⟩
def RX1 : String := "StrawButts$Field"
def TX1 : u_T := fun k => match k with
  | _ => ("StrawButts$Field", "cells", "[I", true)
def tyX1 : Nat → FieldType := fun k => match k with
  | _ => .array .int
abbrev wsX10 : List Cond := u_ws RX1 TX1 1
theorem nmX1 : ∀ a, a < 1 → ∀ b, b < 1 → a ≠ b → (TX1 a).2.1 ≠ (TX1 b).2.1 := by decide +kernel
theorem tyX1_ok : ∀ k, k < 1 → parseFieldDescriptor (TX1 k).2.2.1 = some (tyX1 k) := by decide +kernel
abbrev cX1_init : ByteArray := prog_3_method_1_code
def yX1_init : MethodName := ⟨RX1, "<init>", "()V"⟩
abbrev cX1_copyFrom : ByteArray := prog_3_method_2_code
def yX1_copyFrom : MethodName := ⟨RX1, "copyFrom", "(LStrawButts$Field;)V"⟩
abbrev cX1_clear : ByteArray := prog_3_method_3_code
def yX1_clear : MethodName := ⟨RX1, "clear", "()V"⟩
abbrev cX1_isTold : ByteArray := prog_3_method_4_code
def yX1_isTold : MethodName := ⟨RX1, "isTold", "()Z"⟩
abbrev cX1_hasRing : ByteArray := prog_3_method_5_code
def yX1_hasRing : MethodName := ⟨RX1, "hasRing", "(I)Z"⟩
abbrev cX1_hasArcher : ByteArray := prog_3_method_6_code
def yX1_hasArcher : MethodName := ⟨RX1, "hasArcher", "(I)Z"⟩
abbrev cX1_windOf : ByteArray := prog_3_method_7_code
def yX1_windOf : MethodName := ⟨RX1, "windOf", "(I)I"⟩
abbrev cX1_drift : ByteArray := prog_3_method_8_code
def yX1_drift : MethodName := ⟨RX1, "drift", "(II)I"⟩
abbrev cX1_landing : ByteArray := prog_3_method_9_code
def yX1_landing : MethodName := ⟨RX1, "landing", "(III)I"⟩
abbrev cX1_ringAt : ByteArray := prog_3_method_10_code
def yX1_ringAt : MethodName := ⟨RX1, "ringAt", "(I)I"⟩
abbrev cX1_ringThatHitsOwn : ByteArray := prog_3_method_11_code
def yX1_ringThatHitsOwn : MethodName := ⟨RX1, "ringThatHitsOwn", "(II)I"⟩
abbrev cX1_loose : ByteArray := prog_3_method_12_code
def yX1_loose : MethodName := ⟨RX1, "loose", "(III)I"⟩
abbrev cX1_sumOfArchers : ByteArray := prog_3_method_13_code
def yX1_sumOfArchers : MethodName := ⟨RX1, "sumOfArchers", "(I)I"⟩
def RX2 : String := "StrawButts$Forecast"
def TX2 : u_T := fun k => match k with
  | 0 => ("StrawButts$Forecast", "which", "I", false)
  | 1 => ("StrawButts$Forecast", "much", "I", false)
  | 2 => ("StrawButts$Forecast", "drawnFrom", "I", false)
  | 3 => ("StrawButts$Forecast", "oneHas", "[I", true)
  | _ => ("StrawButts$Forecast", "otherHas", "[I", true)
def tyX2 : Nat → FieldType := fun k => match k with
  | 0 => .int
  | 1 => .int
  | 2 => .int
  | 3 => .array .int
  | _ => .array .int
abbrev wsX20 : List Cond := u_ws RX2 TX2 5
theorem nmX2 : ∀ a, a < 5 → ∀ b, b < 5 → a ≠ b → (TX2 a).2.1 ≠ (TX2 b).2.1 := by decide +kernel
theorem tyX2_ok : ∀ k, k < 5 → parseFieldDescriptor (TX2 k).2.2.1 = some (tyX2 k) := by decide +kernel
abbrev cX2_init : ByteArray := prog_4_method_1_code
def yX2_init : MethodName := ⟨RX2, "<init>", "()V"⟩
abbrev cX2_firstWell : ByteArray := prog_4_method_2_code
def yX2_firstWell : MethodName := ⟨RX2, "firstWell", "(LStrawButts$Play;II)I"⟩
abbrev cX2_areWell : ByteArray := prog_4_method_3_code
def yX2_areWell : MethodName := ⟨RX2, "areWell", "(LStrawButts$Field;II)Z"⟩
abbrev cX2_bestRow : ByteArray := prog_4_method_4_code
def yX2_bestRow : MethodName := ⟨RX2, "bestRow", "(LStrawButts$Field;III)I"⟩
abbrev cX2_findPlace : ByteArray := prog_4_method_5_code
def yX2_findPlace : MethodName := ⟨RX2, "findPlace", "(LStrawButts$Play;LStrawButts$Field;LStrawButts$Rule;II)V"⟩
abbrev cX2_findHeir : ByteArray := prog_4_method_6_code
def yX2_findHeir : MethodName := ⟨RX2, "findHeir", "(LStrawButts$Play;LStrawButts$Field;LStrawButts$Rule;I)V"⟩
abbrev cX2_easedSince : ByteArray := prog_4_method_7_code
def yX2_easedSince : MethodName := ⟨RX2, "easedSince", "(LStrawButts$Field;LStrawButts$Field;)I"⟩
abbrev cX2_takeIfMore : ByteArray := prog_4_method_8_code
def yX2_takeIfMore : MethodName := ⟨RX2, "takeIfMore", "(II)V"⟩
abbrev cX2_weighRings : ByteArray := prog_4_method_9_code
def yX2_weighRings : MethodName := ⟨RX2, "weighRings", "(LStrawButts$Play;LStrawButts$Field;LStrawButts$Rule;III)V"⟩
abbrev cX2_gainOf : ByteArray := prog_4_method_10_code
def yX2_gainOf : MethodName := ⟨RX2, "gainOf", "(LStrawButts$Field;LStrawButts$Field;I)I"⟩
abbrev cX2_restsOf : ByteArray := prog_4_method_11_code
def yX2_restsOf : MethodName := ⟨RX2, "restsOf", "(II)I"⟩
abbrev cX2_isRest : ByteArray := prog_4_method_12_code
def yX2_isRest : MethodName := ⟨RX2, "isRest", "(II)Z"⟩
abbrev cX2_penceOf : ByteArray := prog_4_method_13_code
def yX2_penceOf : MethodName := ⟨RX2, "penceOf", "(LStrawButts$Field;II)I"⟩
abbrev cX2_blowRounds : ByteArray := prog_4_method_14_code
def yX2_blowRounds : MethodName := ⟨RX2, "blowRounds", "(LStrawButts$Play;II)V"⟩
abbrev cX2_drawn : ByteArray := prog_4_method_15_code
def yX2_drawn : MethodName := ⟨RX2, "drawn", "()I"⟩
def RX3 : String := "StrawButts$GreenReader"
def TX3 : u_T := fun k => match k with
  | _ => ("StrawButts$GreenReader", "draft", "LStrawButts$Field;", true)
def tyX3 : Nat → FieldType := fun k => match k with
  | _ => .object "StrawButts$Field"
abbrev wsX30 : List Cond := u_ws RX3 TX3 1
theorem nmX3 : ∀ a, a < 1 → ∀ b, b < 1 → a ≠ b → (TX3 a).2.1 ≠ (TX3 b).2.1 := by decide +kernel
theorem tyX3_ok : ∀ k, k < 1 → parseFieldDescriptor (TX3 k).2.2.1 = some (tyX3 k) := by decide +kernel
abbrev cX3_init : ByteArray := prog_5_method_1_code
def yX3_init : MethodName := ⟨RX3, "<init>", "()V"⟩
abbrev cX3_readFrom : ByteArray := prog_5_method_2_code
def yX3_readFrom : MethodName := ⟨RX3, "readFrom", "(LStrawButts$Tape;)I"⟩
abbrev cX3_readClause : ByteArray := prog_5_method_3_code
def yX3_readClause : MethodName := ⟨RX3, "readClause", "(LStrawButts$Tape;I)V"⟩
abbrev cX3_opensClause : ByteArray := prog_5_method_4_code
def yX3_opensClause : MethodName := ⟨RX3, "opensClause", "(I)Z"⟩
abbrev cX3_isFullOf : ByteArray := prog_5_method_5_code
def yX3_isFullOf : MethodName := ⟨RX3, "isFullOf", "(I)Z"⟩
abbrev cX3_readNumbers : ByteArray := prog_5_method_6_code
def yX3_readNumbers : MethodName := ⟨RX3, "readNumbers", "(LStrawButts$Tape;I)V"⟩
abbrev cX3_readFreePlace : ByteArray := prog_5_method_7_code
def yX3_readFreePlace : MethodName := ⟨RX3, "readFreePlace", "(LStrawButts$Tape;)I"⟩
abbrev cX3_readNumber : ByteArray := prog_5_method_8_code
def yX3_readNumber : MethodName := ⟨RX3, "readNumber", "(LStrawButts$Tape;II)I"⟩
abbrev cX3_complete : ByteArray := prog_5_method_9_code
def yX3_complete : MethodName := ⟨RX3, "complete", "()V"⟩
def RX4 : String := "StrawButts$Moment"
def TX4 : u_T := fun k => match k with
  | 0 => ("StrawButts$Moment", "field", "LStrawButts$Field;", true)
  | 1 => ("StrawButts$Moment", "begin", "LStrawButts$Field;", true)
  | 2 => ("StrawButts$Moment", "notes", "LStrawButts$Notes;", true)
  | 3 => ("StrawButts$Moment", "inForce", "I", false)
  | 4 => ("StrawButts$Moment", "x", "I", false)
  | _ => ("StrawButts$Moment", "isMade", "Z", false)
def tyX4 : Nat → FieldType := fun k => match k with
  | 0 => .object "StrawButts$Field"
  | 1 => .object "StrawButts$Field"
  | 2 => .object "StrawButts$Notes"
  | 3 => .int
  | 4 => .int
  | _ => .boolean
abbrev wsX40 : List Cond := u_ws RX4 TX4 6
theorem nmX4 : ∀ a, a < 6 → ∀ b, b < 6 → a ≠ b → (TX4 a).2.1 ≠ (TX4 b).2.1 := by decide +kernel
theorem tyX4_ok : ∀ k, k < 6 → parseFieldDescriptor (TX4 k).2.2.1 = some (tyX4 k) := by decide +kernel
abbrev cX4_init : ByteArray := prog_6_method_1_code
def yX4_init : MethodName := ⟨RX4, "<init>", "()V"⟩
abbrev cX4_copyFrom : ByteArray := prog_6_method_2_code
def yX4_copyFrom : MethodName := ⟨RX4, "copyFrom", "(LStrawButts$Moment;)V"⟩
def RX5 : String := "StrawButts$Notes"
def TX5 : u_T := fun k => match k with
  | 0 => ("StrawButts$Notes", "rounds", "[I", true)
  | 1 => ("StrawButts$Notes", "archers", "[I", true)
  | 2 => ("StrawButts$Notes", "places", "[I", true)
  | _ => ("StrawButts$Notes", "size", "I", false)
def tyX5 : Nat → FieldType := fun k => match k with
  | 0 => .array .int
  | 1 => .array .int
  | 2 => .array .int
  | _ => .int
abbrev wsX50 : List Cond := u_ws RX5 TX5 4
theorem nmX5 : ∀ a, a < 4 → ∀ b, b < 4 → a ≠ b → (TX5 a).2.1 ≠ (TX5 b).2.1 := by decide +kernel
theorem tyX5_ok : ∀ k, k < 4 → parseFieldDescriptor (TX5 k).2.2.1 = some (tyX5 k) := by decide +kernel
abbrev cX5_init : ByteArray := prog_7_method_1_code
def yX5_init : MethodName := ⟨RX5, "<init>", "()V"⟩
abbrev cX5_copyFrom : ByteArray := prog_7_method_2_code
def yX5_copyFrom : MethodName := ⟨RX5, "copyFrom", "(LStrawButts$Notes;)V"⟩
abbrev cX5_isFull : ByteArray := prog_7_method_3_code
def yX5_isFull : MethodName := ⟨RX5, "isFull", "()Z"⟩
abbrev cX5_add : ByteArray := prog_7_method_4_code
def yX5_add : MethodName := ⟨RX5, "add", "(III)V"⟩
abbrev cX5_lastRound : ByteArray := prog_7_method_5_code
def yX5_lastRound : MethodName := ⟨RX5, "lastRound", "()I"⟩
abbrev cX5_agree : ByteArray := prog_7_method_6_code
def yX5_agree : MethodName := ⟨RX5, "agree", "(I[I)Z"⟩
def RX6 : String := "StrawButts$Play"
def TX6 : u_T := fun k => match k with
  | 0 => ("StrawButts$Play", "field", "LStrawButts$Field;", true)
  | 1 => ("StrawButts$Play", "came", "[I", true)
  | 2 => ("StrawButts$Play", "bound", "[I", true)
  | 3 => ("StrawButts$Play", "gust", "I", false)
  | 4 => ("StrawButts$Play", "isStill", "Z", false)
  | 5 => ("StrawButts$Play", "rule", "LStrawButts$Rule;", false)
  | 6 => ("StrawButts$Play", "words", "[J", true)
  | _ => ("StrawButts$Play", "stack", "[J", true)
def tyX6 : Nat → FieldType := fun k => match k with
  | 0 => .object "StrawButts$Field"
  | 1 => .array .int
  | 2 => .array .int
  | 3 => .int
  | 4 => .boolean
  | 5 => .object "StrawButts$Rule"
  | 6 => .array .long
  | _ => .array .long
abbrev wsX60 : List Cond := u_ws RX6 TX6 8
theorem nmX6 : ∀ a, a < 8 → ∀ b, b < 8 → a ≠ b → (TX6 a).2.1 ≠ (TX6 b).2.1 := by decide +kernel
theorem tyX6_ok : ∀ k, k < 8 → parseFieldDescriptor (TX6 k).2.2.1 = some (tyX6 k) := by decide +kernel
abbrev cX6_init : ByteArray := prog_8_method_1_code
def yX6_init : MethodName := ⟨RX6, "<init>", "()V"⟩
abbrev cX6_startFrom : ByteArray := prog_8_method_2_code
def yX6_startFrom : MethodName := ⟨RX6, "startFrom", "(LStrawButts$Field;LStrawButts$Rule;)V"⟩
abbrev cX6_playRound : ByteArray := prog_8_method_3_code
def yX6_playRound : MethodName := ⟨RX6, "playRound", "()I"⟩
abbrev cX6_playRounds : ByteArray := prog_8_method_4_code
def yX6_playRounds : MethodName := ⟨RX6, "playRounds", "(I)V"⟩
abbrev cX6_takeTurn : ByteArray := prog_8_method_5_code
def yX6_takeTurn : MethodName := ⟨RX6, "takeTurn", "(I)I"⟩
abbrev cX6_aimOf : ByteArray := prog_8_method_6_code
def yX6_aimOf : MethodName := ⟨RX6, "aimOf", "(II)I"⟩
def RX7 : String := "StrawButts$Rule"
def TX7 : u_T := fun k => match k with
  | 0 => ("StrawButts$Rule", "steps", "[I", true)
  | _ => ("StrawButts$Rule", "asksRound", "Z", true)
def tyX7 : Nat → FieldType := fun k => match k with
  | 0 => .array .int
  | _ => .boolean
abbrev wsX70 : List Cond := u_ws RX7 TX7 2
theorem nmX7 : ∀ a, a < 2 → ∀ b, b < 2 → a ≠ b → (TX7 a).2.1 ≠ (TX7 b).2.1 := by decide +kernel
theorem tyX7_ok : ∀ k, k < 2 → parseFieldDescriptor (TX7 k).2.2.1 = some (tyX7 k) := by decide +kernel
abbrev cX7_init : ByteArray := prog_9_method_1_code
def yX7_init : MethodName := ⟨RX7, "<init>", "([I)V"⟩
abbrev cX7_worth : ByteArray := prog_9_method_2_code
def yX7_worth : MethodName := ⟨RX7, "worth", "([J[J)J"⟩
abbrev cX7_joined : ByteArray := prog_9_method_3_code
def yX7_joined : MethodName := ⟨RX7, "joined", "(IJJ)J"⟩
def RX8 : String := "StrawButts$RuleReader"
def TX8 : u_T := fun k => match k with
  | 0 => ("StrawButts$RuleReader", "steps", "[I", true)
  | 1 => ("StrawButts$RuleReader", "size", "I", false)
  | _ => ("StrawButts$RuleReader", "parts", "I", false)
def tyX8 : Nat → FieldType := fun k => match k with
  | 0 => .array .int
  | 1 => .int
  | _ => .int
abbrev wsX80 : List Cond := u_ws RX8 TX8 3
theorem nmX8 : ∀ a, a < 3 → ∀ b, b < 3 → a ≠ b → (TX8 a).2.1 ≠ (TX8 b).2.1 := by decide +kernel
theorem tyX8_ok : ∀ k, k < 3 → parseFieldDescriptor (TX8 k).2.2.1 = some (tyX8 k) := by decide +kernel
abbrev cX8_init : ByteArray := prog_10_method_1_code
def yX8_init : MethodName := ⟨RX8, "<init>", "()V"⟩
abbrev cX8_readFrom : ByteArray := prog_10_method_2_code
def yX8_readFrom : MethodName := ⟨RX8, "readFrom", "(LStrawButts$Tape;)I"⟩
abbrev cX8_made : ByteArray := prog_10_method_3_code
def yX8_made : MethodName := ⟨RX8, "made", "()LStrawButts$Rule;"⟩
abbrev cX8_readClause : ByteArray := prog_10_method_4_code
def yX8_readClause : MethodName := ⟨RX8, "readClause", "(LStrawButts$Tape;I)V"⟩
abbrev cX8_readTest : ByteArray := prog_10_method_5_code
def yX8_readTest : MethodName := ⟨RX8, "readTest", "(LStrawButts$Tape;I)V"⟩
abbrev cX8_readFact : ByteArray := prog_10_method_6_code
def yX8_readFact : MethodName := ⟨RX8, "readFact", "(LStrawButts$Tape;I)V"⟩
abbrev cX8_readComparison : ByteArray := prog_10_method_7_code
def yX8_readComparison : MethodName := ⟨RX8, "readComparison", "(LStrawButts$Tape;)I"⟩
abbrev cX8_comparisonOf : ByteArray := prog_10_method_8_code
def yX8_comparisonOf : MethodName := ⟨RX8, "comparisonOf", "(LStrawButts$Tape;)I"⟩
abbrev cX8_readSum : ByteArray := prog_10_method_9_code
def yX8_readSum : MethodName := ⟨RX8, "readSum", "(LStrawButts$Tape;)V"⟩
abbrev cX8_reckoningOf : ByteArray := prog_10_method_10_code
def yX8_reckoningOf : MethodName := ⟨RX8, "reckoningOf", "(LStrawButts$Tape;)I"⟩
abbrev cX8_readValue : ByteArray := prog_10_method_11_code
def yX8_readValue : MethodName := ⟨RX8, "readValue", "(LStrawButts$Tape;)V"⟩
abbrev cX8_addStep : ByteArray := prog_10_method_12_code
def yX8_addStep : MethodName := ⟨RX8, "addStep", "(II)V"⟩
def RX9 : String := "StrawButts$Study"
def TX9 : u_T := fun k => match k with
  | 0 => ("StrawButts$Study", "fitting", "I", false)
  | 1 => ("StrawButts$Study", "firstFitting", "I", false)
  | _ => ("StrawButts$Study", "came", "[[I", true)
def tyX9 : Nat → FieldType := fun k => match k with
  | 0 => .int
  | 1 => .int
  | _ => .array (.array .int)
abbrev wsX90 : List Cond := u_ws RX9 TX9 3
theorem nmX9 : ∀ a, a < 3 → ∀ b, b < 3 → a ≠ b → (TX9 a).2.1 ≠ (TX9 b).2.1 := by decide +kernel
theorem tyX9_ok : ∀ k, k < 3 → parseFieldDescriptor (TX9 k).2.2.1 = some (tyX9 k) := by decide +kernel
abbrev cX9_init : ByteArray := prog_11_method_1_code
def yX9_init : MethodName := ⟨RX9, "<init>", "()V"⟩
abbrev cX9_numbersThatFit : ByteArray := prog_11_method_2_code
def yX9_numbersThatFit : MethodName := ⟨RX9, "numbersThatFit", "(LStrawButts$Play;LStrawButts$Moment;LStrawButts$Rule;III)I"⟩
abbrev cX9_lookAhead : ByteArray := prog_11_method_3_code
def yX9_lookAhead : MethodName := ⟨RX9, "lookAhead", "(LStrawButts$Play;LStrawButts$Moment;[LStrawButts$Rule;II)V"⟩
abbrev cX9_fits : ByteArray := prog_11_method_4_code
def yX9_fits : MethodName := ⟨RX9, "fits", "(LStrawButts$Play;LStrawButts$Notes;I[I)Z"⟩
abbrev cX9_bestParted : ByteArray := prog_11_method_5_code
def yX9_bestParted : MethodName := ⟨RX9, "bestParted", "(I)I"⟩
abbrev cX9_mostAlike : ByteArray := prog_11_method_6_code
def yX9_mostAlike : MethodName := ⟨RX9, "mostAlike", "(I)I"⟩
def RX10 : String := "StrawButts$Tape"
def TX10 : u_T := fun k => match k with
  | 0 => ("StrawButts$Tape", "bytes", "[I", true)
  | 1 => ("StrawButts$Tape", "length", "I", false)
  | 2 => ("StrawButts$Tape", "kinds", "[I", true)
  | 3 => ("StrawButts$Tape", "values", "[I", true)
  | 4 => ("StrawButts$Tape", "places", "[I", true)
  | 5 => ("StrawButts$Tape", "tokens", "I", false)
  | 6 => ("StrawButts$Tape", "at", "I", false)
  | 7 => ("StrawButts$Tape", "kind", "I", false)
  | 8 => ("StrawButts$Tape", "value", "I", false)
  | 9 => ("StrawButts$Tape", "place", "I", false)
  | _ => ("StrawButts$Tape", "fault", "I", false)
def tyX10 : Nat → FieldType := fun k => match k with
  | 0 => .array .int
  | 1 => .int
  | 2 => .array .int
  | 3 => .array .int
  | 4 => .array .int
  | 5 => .int
  | 6 => .int
  | 7 => .int
  | 8 => .int
  | 9 => .int
  | _ => .int
abbrev wsX100 : List Cond := u_ws RX10 TX10 11
theorem nmX10 : ∀ a, a < 11 → ∀ b, b < 11 → a ≠ b → (TX10 a).2.1 ≠ (TX10 b).2.1 := by decide +kernel
theorem tyX10_ok : ∀ k, k < 11 → parseFieldDescriptor (TX10 k).2.2.1 = some (tyX10 k) := by decide +kernel
abbrev cX10_init : ByteArray := prog_12_method_1_code
def yX10_init : MethodName := ⟨RX10, "<init>", "()V"⟩
abbrev cX10_hasRoom : ByteArray := prog_12_method_2_code
def yX10_hasRoom : MethodName := ⟨RX10, "hasRoom", "(I)Z"⟩
abbrev cX10_addBytes : ByteArray := prog_12_method_3_code
def yX10_addBytes : MethodName := ⟨RX10, "addBytes", "(I)V"⟩
abbrev cX10_open : ByteArray := prog_12_method_4_code
def yX10_open : MethodName := ⟨RX10, "open", "()V"⟩
abbrev cX10_advance : ByteArray := prog_12_method_5_code
def yX10_advance : MethodName := ⟨RX10, "advance", "()V"⟩
abbrev cX10_isSign : ByteArray := prog_12_method_6_code
def yX10_isSign : MethodName := ⟨RX10, "isSign", "(I)Z"⟩
abbrev cX10_isWord : ByteArray := prog_12_method_7_code
def yX10_isWord : MethodName := ⟨RX10, "isWord", "(I)Z"⟩
abbrev cX10_hasNextClause : ByteArray := prog_12_method_8_code
def yX10_hasNextClause : MethodName := ⟨RX10, "hasNextClause", "()Z"⟩
abbrev cX10_failAt : ByteArray := prog_12_method_9_code
def yX10_failAt : MethodName := ⟨RX10, "failAt", "(II)V"⟩
abbrev cX10_scanToken : ByteArray := prog_12_method_10_code
def yX10_scanToken : MethodName := ⟨RX10, "scanToken", "(I)I"⟩
abbrev cX10_scanNumber : ByteArray := prog_12_method_11_code
def yX10_scanNumber : MethodName := ⟨RX10, "scanNumber", "(I)I"⟩
abbrev cX10_scanWord : ByteArray := prog_12_method_12_code
def yX10_scanWord : MethodName := ⟨RX10, "scanWord", "(I)I"⟩
abbrev cX10_wordOf : ByteArray := prog_12_method_13_code
def yX10_wordOf : MethodName := ⟨RX10, "wordOf", "(II)I"⟩
abbrev cX10_isNamed : ByteArray := prog_12_method_14_code
def yX10_isNamed : MethodName := ⟨RX10, "isNamed", "(III)Z"⟩
abbrev cX10_isDigit : ByteArray := prog_12_method_15_code
def yX10_isDigit : MethodName := ⟨RX10, "isDigit", "(I)Z"⟩
abbrev cX10_isLetter : ByteArray := prog_12_method_16_code
def yX10_isLetter : MethodName := ⟨RX10, "isLetter", "(I)Z"⟩
abbrev cX10_addToken : ByteArray := prog_12_method_17_code
def yX10_addToken : MethodName := ⟨RX10, "addToken", "(III)V"⟩
def RX11 : String := "StrawButts"
def TX11 : u_T := fun k => match k with
  | 0 => ("StrawButts", "tape", "LStrawButts$Tape;", true)
  | 1 => ("StrawButts", "greenReader", "LStrawButts$GreenReader;", true)
  | 2 => ("StrawButts", "ruleReader", "LStrawButts$RuleReader;", true)
  | 3 => ("StrawButts", "rules", "[LStrawButts$Rule;", true)
  | 4 => ("StrawButts", "ruleCount", "I", false)
  | 5 => ("StrawButts", "now", "LStrawButts$Moment;", true)
  | 6 => ("StrawButts", "images", "[LStrawButts$Moment;", true)
  | 7 => ("StrawButts", "acts", "LStrawButts$Acts;", true)
  | 8 => ("StrawButts", "play", "LStrawButts$Play;", true)
  | 9 => ("StrawButts", "forecast", "LStrawButts$Forecast;", true)
  | _ => ("StrawButts", "study", "LStrawButts$Study;", true)
def tyX11 : Nat → FieldType := fun k => match k with
  | 0 => .object "StrawButts$Tape"
  | 1 => .object "StrawButts$GreenReader"
  | 2 => .object "StrawButts$RuleReader"
  | 3 => .array (.object "StrawButts$Rule")
  | 4 => .int
  | 5 => .object "StrawButts$Moment"
  | 6 => .array (.object "StrawButts$Moment")
  | 7 => .object "StrawButts$Acts"
  | 8 => .object "StrawButts$Play"
  | 9 => .object "StrawButts$Forecast"
  | _ => .object "StrawButts$Study"
abbrev wsX110 : List Cond := u_ws RX11 TX11 11
theorem nmX11 : ∀ a, a < 11 → ∀ b, b < 11 → a ≠ b → (TX11 a).2.1 ≠ (TX11 b).2.1 := by decide +kernel
theorem tyX11_ok : ∀ k, k < 11 → parseFieldDescriptor (TX11 k).2.2.1 = some (tyX11 k) := by decide +kernel
abbrev cX11_init : ByteArray := prog_1_method_1_code
def yX11_init : MethodName := ⟨RX11, "<init>", "()V"⟩
abbrev cX11_feed : ByteArray := prog_1_method_2_code
def yX11_feed : MethodName := ⟨RX11, "feed", "(IIIII)I"⟩
abbrev cX11_end : ByteArray := prog_1_method_3_code
def yX11_end : MethodName := ⟨RX11, "end", "(I)I"⟩
abbrev cX11_green : ByteArray := prog_1_method_4_code
def yX11_green : MethodName := ⟨RX11, "green", "()I"⟩
abbrev cX11_rule : ByteArray := prog_1_method_5_code
def yX11_rule : MethodName := ⟨RX11, "rule", "()I"⟩
abbrev cX11_force : ByteArray := prog_1_method_6_code
def yX11_force : MethodName := ⟨RX11, "force", "(I)I"⟩
abbrev cX11_ring : ByteArray := prog_1_method_7_code
def yX11_ring : MethodName := ⟨RX11, "ring", "(II)I"⟩
abbrev cX11_archer : ByteArray := prog_1_method_8_code
def yX11_archer : MethodName := ⟨RX11, "archer", "(II)I"⟩
abbrev cX11_wind : ByteArray := prog_1_method_9_code
def yX11_wind : MethodName := ⟨RX11, "wind", "(I)I"⟩
abbrev cX11_count : ByteArray := prog_1_method_10_code
def yX11_count : MethodName := ⟨RX11, "count", "(I)I"⟩
abbrev cX11_round : ByteArray := prog_1_method_11_code
def yX11_round : MethodName := ⟨RX11, "round", "()I"⟩
abbrev cX11_shoot : ByteArray := prog_1_method_12_code
def yX11_shoot : MethodName := ⟨RX11, "shoot", "(II)I"⟩
abbrev cX11_pull : ByteArray := prog_1_method_13_code
def yX11_pull : MethodName := ⟨RX11, "pull", "(II)I"⟩
abbrev cX11_breath : ByteArray := prog_1_method_14_code
def yX11_breath : MethodName := ⟨RX11, "breath", "(I)I"⟩
abbrev cX11_teach : ByteArray := prog_1_method_15_code
def yX11_teach : MethodName := ⟨RX11, "teach", "(II)I"⟩
abbrev cX11_undo : ByteArray := prog_1_method_16_code
def yX11_undo : MethodName := ⟨RX11, "undo", "()I"⟩
abbrev cX11_ahead : ByteArray := prog_1_method_17_code
def yX11_ahead : MethodName := ⟨RX11, "ahead", "(III)I"⟩
abbrev cX11_eased : ByteArray := prog_1_method_18_code
def yX11_eased : MethodName := ⟨RX11, "eased", "(I)I"⟩
abbrev cX11_allEased : ByteArray := prog_1_method_19_code
def yX11_allEased : MethodName := ⟨RX11, "allEased", "()I"⟩
abbrev cX11_down : ByteArray := prog_1_method_20_code
def yX11_down : MethodName := ⟨RX11, "down", "(II)I"⟩
abbrev cX11_bestAim : ByteArray := prog_1_method_21_code
def yX11_bestAim : MethodName := ⟨RX11, "bestAim", "(II)I"⟩
abbrev cX11_row : ByteArray := prog_1_method_22_code
def yX11_row : MethodName := ⟨RX11, "row", "(III)I"⟩
abbrev cX11_hold : ByteArray := prog_1_method_23_code
def yX11_hold : MethodName := ⟨RX11, "hold", "(I)I"⟩
abbrev cX11_leastSkill : ByteArray := prog_1_method_24_code
def yX11_leastSkill : MethodName := ⟨RX11, "leastSkill", "(II)I"⟩
abbrev cX11_set : ByteArray := prog_1_method_25_code
def yX11_set : MethodName := ⟨RX11, "set", "(III)I"⟩
abbrev cX11_given : ByteArray := prog_1_method_26_code
def yX11_given : MethodName := ⟨RX11, "given", "(II)I"⟩
abbrev cX11_rests : ByteArray := prog_1_method_27_code
def yX11_rests : MethodName := ⟨RX11, "rests", "(IIII)I"⟩
abbrev cX11_pence : ByteArray := prog_1_method_28_code
def yX11_pence : MethodName := ⟨RX11, "pence", "(II)I"⟩
abbrev cX11_note : ByteArray := prog_1_method_29_code
def yX11_note : MethodName := ⟨RX11, "note", "(III)I"⟩
abbrev cX11_skilled : ByteArray := prog_1_method_30_code
def yX11_skilled : MethodName := ⟨RX11, "skilled", "(I)I"⟩
abbrev cX11_ails : ByteArray := prog_1_method_31_code
def yX11_ails : MethodName := ⟨RX11, "ails", "(I)I"⟩
abbrev cX11_ruled : ByteArray := prog_1_method_32_code
def yX11_ruled : MethodName := ⟨RX11, "ruled", "(I)I"⟩
abbrev cX11_look : ByteArray := prog_1_method_33_code
def yX11_look : MethodName := ⟨RX11, "look", "(II)I"⟩
abbrev cX11_seed : ByteArray := prog_1_method_34_code
def yX11_seed : MethodName := ⟨RX11, "seed", "(I)I"⟩
abbrev cX11_gusts : ByteArray := prog_1_method_35_code
def yX11_gusts : MethodName := ⟨RX11, "gusts", "(IIII)I"⟩
abbrev cX11_image : ByteArray := prog_1_method_36_code
def yX11_image : MethodName := ⟨RX11, "image", "(I)I"⟩
abbrev cX11_back : ByteArray := prog_1_method_37_code
def yX11_back : MethodName := ⟨RX11, "back", "(I)I"⟩
abbrev cX11_within : ByteArray := prog_1_method_38_code
def yX11_within : MethodName := ⟨RX11, "within", "(III)Z"⟩
abbrev cX11_placeOrHedge : ByteArray := prog_1_method_39_code
def yX11_placeOrHedge : MethodName := ⟨RX11, "placeOrHedge", "(I)I"⟩
abbrev cX11_ruleInForce : ByteArray := prog_1_method_40_code
def yX11_ruleInForce : MethodName := ⟨RX11, "ruleInForce", "()LStrawButts$Rule;"⟩
def RX12 : String := "StrawButtsModel"
def TX12 : u_T := fun k => match k with
  | 0 => ("StrawButtsModel", "tape", "[B", true)
  | 1 => ("StrawButtsModel", "taped", "I", false)
  | 2 => ("StrawButtsModel", "rules", "I", false)
  | 3 => ("StrawButtsModel", "sign", "[I", true)
  | 4 => ("StrawButtsModel", "length", "[I", true)
  | 5 => ("StrawButtsModel", "clause", "[I", true)
  | 6 => ("StrawButtsModel", "clauses", "[I", true)
  | 7 => ("StrawButtsModel", "read", "[I", true)
  | 8 => ("StrawButtsModel", "next", "I", false)
  | 9 => ("StrawButtsModel", "wrong", "I", false)
  | 10 => ("StrawButtsModel", "number", "I", false)
  | 11 => ("StrawButtsModel", "text", "I", false)
  | 12 => ("StrawButtsModel", "made", "I", false)
  | 13 => ("StrawButtsModel", "deep", "I", false)
  | 14 => ("StrawButtsModel", "lines", "I", false)
  | 15 => ("StrawButtsModel", "open", "[I", true)
  | 16 => ("StrawButtsModel", "opened", "I", false)
  | 17 => ("StrawButtsModel", "stack", "[J", true)
  | 18 => ("StrawButtsModel", "top", "I", false)
  | 19 => ("StrawButtsModel", "word", "[J", true)
  | 20 => ("StrawButtsModel", "said", "[I", true)
  | 21 => ("StrawButtsModel", "force", "I", false)
  | 22 => ("StrawButtsModel", "x", "I", false)
  | 23 => ("StrawButtsModel", "windAlone", "I", false)
  | 24 => ("StrawButtsModel", "planned", "[I", true)
  | 25 => ("StrawButtsModel", "cameOf", "[I", true)
  | 26 => ("StrawButtsModel", "wasSaid", "[I", true)
  | 27 => ("StrawButtsModel", "undone", "I", false)
  | 28 => ("StrawButtsModel", "kept", "[I", true)
  | 29 => ("StrawButtsModel", "rowNow", "[I", true)
  | 30 => ("StrawButtsModel", "rowBest", "[I", true)
  | 31 => ("StrawButtsModel", "hasBy", "[I", true)
  | 32 => ("StrawButtsModel", "isFit", "[Z", true)
  | 33 => ("StrawButtsModel", "cameThen", "[I", true)
  | 34 => ("StrawButtsModel", "drawX", "J", false)
  | 35 => ("StrawButtsModel", "images", "[I", true)
  | 36 => ("StrawButtsModel", "imageForce", "[I", true)
  | 37 => ("StrawButtsModel", "imageX", "[I", true)
  | _ => ("StrawButtsModel", "isMade", "[Z", true)
def tyX12 : Nat → FieldType := fun k => match k with
  | 0 => .array .byte
  | 1 => .int
  | 2 => .int
  | 3 => .array .int
  | 4 => .array .int
  | 5 => .array .int
  | 6 => .array .int
  | 7 => .array .int
  | 8 => .int
  | 9 => .int
  | 10 => .int
  | 11 => .int
  | 12 => .int
  | 13 => .int
  | 14 => .int
  | 15 => .array .int
  | 16 => .int
  | 17 => .array .long
  | 18 => .int
  | 19 => .array .long
  | 20 => .array .int
  | 21 => .int
  | 22 => .int
  | 23 => .int
  | 24 => .array .int
  | 25 => .array .int
  | 26 => .array .int
  | 27 => .int
  | 28 => .array .int
  | 29 => .array .int
  | 30 => .array .int
  | 31 => .array .int
  | 32 => .array .boolean
  | 33 => .array .int
  | 34 => .long
  | 35 => .array .int
  | 36 => .array .int
  | 37 => .array .int
  | _ => .array .boolean
abbrev wsX120 : List Cond := u_ws RX12 TX12 39
theorem nmX12 : ∀ a, a < 39 → ∀ b, b < 39 → a ≠ b → (TX12 a).2.1 ≠ (TX12 b).2.1 := by decide +kernel
theorem tyX12_ok : ∀ k, k < 39 → parseFieldDescriptor (TX12 k).2.2.1 = some (tyX12 k) := by decide +kernel
abbrev cX12_init : ByteArray := prog_14_method_1_code
def yX12_init : MethodName := ⟨RX12, "<init>", "()V"⟩
abbrev cX12_in : ByteArray := prog_14_method_2_code
def yX12_in : MethodName := ⟨RX12, "in", "(JJJ)Z"⟩
abbrev cX12_four : ByteArray := prog_14_method_5_code
def yX12_four : MethodName := ⟨RX12, "four", "(I)V"⟩
abbrev cX12_feed : ByteArray := prog_14_method_6_code
def yX12_feed : MethodName := ⟨RX12, "feed", "(IIIII)I"⟩
abbrev cX12_end : ByteArray := prog_14_method_7_code
def yX12_end : MethodName := ⟨RX12, "end", "(I)I"⟩
abbrev cX12_fails : ByteArray := prog_14_method_8_code
def yX12_fails : MethodName := ⟨RX12, "fails", "(II)Z"⟩
abbrev cX12_see : ByteArray := prog_14_method_9_code
def yX12_see : MethodName := ⟨RX12, "see", "()I"⟩
abbrev cX12_isDigit : ByteArray := prog_14_method_10_code
def yX12_isDigit : MethodName := ⟨RX12, "isDigit", "(I)Z"⟩
abbrev cX12_isLetter : ByteArray := prog_14_method_11_code
def yX12_isLetter : MethodName := ⟨RX12, "isLetter", "(I)Z"⟩
abbrev cX12_isWord : ByteArray := prog_14_method_12_code
def yX12_isWord : MethodName := ⟨RX12, "isWord", "(J)Z"⟩
abbrev cX12_passWord : ByteArray := prog_14_method_13_code
def yX12_passWord : MethodName := ⟨RX12, "passWord", "()V"⟩
abbrev cX12_takesWord : ByteArray := prog_14_method_14_code
def yX12_takesWord : MethodName := ⟨RX12, "takesWord", "(J)Z"⟩
abbrev cX12_numberHere : ByteArray := prog_14_method_15_code
def yX12_numberHere : MethodName := ⟨RX12, "numberHere", "(II)Z"⟩
abbrev cX12_wordHere : ByteArray := prog_14_method_16_code
def yX12_wordHere : MethodName := ⟨RX12, "wordHere", "()I"⟩
abbrev cX12_puts : ByteArray := prog_14_method_17_code
def yX12_puts : MethodName := ⟨RX12, "puts", "(II)V"⟩
abbrev cX12_makes : ByteArray := prog_14_method_18_code
def yX12_makes : MethodName := ⟨RX12, "makes", "(I)Z"⟩
abbrev cX12_opens : ByteArray := prog_14_method_19_code
def yX12_opens : MethodName := ⟨RX12, "opens", "(I)Z"⟩
abbrev cX12_strength : ByteArray := prog_14_method_20_code
def yX12_strength : MethodName := ⟨RX12, "strength", "(I)I"⟩
abbrev cX12_layDown : ByteArray := prog_14_method_21_code
def yX12_layDown : MethodName := ⟨RX12, "layDown", "(I)V"⟩
abbrev cX12_value : ByteArray := prog_14_method_22_code
def yX12_value : MethodName := ⟨RX12, "value", "()Z"⟩
abbrev cX12_term : ByteArray := prog_14_method_23_code
def yX12_term : MethodName := ⟨RX12, "term", "()Z"⟩
abbrev cX12_sum : ByteArray := prog_14_method_24_code
def yX12_sum : MethodName := ⟨RX12, "sum", "()Z"⟩
abbrev cX12_compare : ByteArray := prog_14_method_25_code
def yX12_compare : MethodName := ⟨RX12, "compare", "()Z"⟩
abbrev cX12_fact : ByteArray := prog_14_method_26_code
def yX12_fact : MethodName := ⟨RX12, "fact", "()Z"⟩
abbrev cX12_isInside : ByteArray := prog_14_method_27_code
def yX12_isInside : MethodName := ⟨RX12, "isInside", "()Z"⟩
abbrev cX12_closes : ByteArray := prog_14_method_28_code
def yX12_closes : MethodName := ⟨RX12, "closes", "()V"⟩
abbrev cX12_tested : ByteArray := prog_14_method_29_code
def yX12_tested : MethodName := ⟨RX12, "tested", "()Z"⟩
abbrev cX12_isAimHere : ByteArray := prog_14_method_30_code
def yX12_isAimHere : MethodName := ⟨RX12, "isAimHere", "()Z"⟩
abbrev cX12_cellHere : ByteArray := prog_14_method_31_code
def yX12_cellHere : MethodName := ⟨RX12, "cellHere", "(III)Z"⟩
abbrev cX12_isGreenHere : ByteArray := prog_14_method_32_code
def yX12_isGreenHere : MethodName := ⟨RX12, "isGreenHere", "(I)Z"⟩
abbrev cX12_isWindHere : ByteArray := prog_14_method_33_code
def yX12_isWindHere : MethodName := ⟨RX12, "isWindHere", "(I)Z"⟩
abbrev cX12_isTaken : ByteArray := prog_14_method_34_code
def yX12_isTaken : MethodName := ⟨RX12, "isTaken", "(I)Z"⟩
abbrev cX12_isRingHere : ByteArray := prog_14_method_35_code
def yX12_isRingHere : MethodName := ⟨RX12, "isRingHere", "(I)Z"⟩
abbrev cX12_isArcherHere : ByteArray := prog_14_method_36_code
def yX12_isArcherHere : MethodName := ⟨RX12, "isArcherHere", "(I)Z"⟩
abbrev cX12_greenLineHere : ByteArray := prog_14_method_37_code
def yX12_greenLineHere : MethodName := ⟨RX12, "greenLineHere", "(I)Z"⟩
abbrev cX12_isGreenWord : ByteArray := prog_14_method_38_code
def yX12_isGreenWord : MethodName := ⟨RX12, "isGreenWord", "()Z"⟩
abbrev cX12_clauseHere : ByteArray := prog_14_method_39_code
def yX12_clauseHere : MethodName := ⟨RX12, "clauseHere", "()Z"⟩
abbrev cX12_readsAll : ByteArray := prog_14_method_40_code
def yX12_readsAll : MethodName := ⟨RX12, "readsAll", "()Z"⟩
abbrev cX12_rule : ByteArray := prog_14_method_41_code
def yX12_rule : MethodName := ⟨RX12, "rule", "()I"⟩
abbrev cX12_green : ByteArray := prog_14_method_42_code
def yX12_green : MethodName := ⟨RX12, "green", "()I"⟩
abbrev cX12_isRule : ByteArray := prog_14_method_43_code
def yX12_isRule : MethodName := ⟨RX12, "isRule", "(I)Z"⟩
abbrev cX12_push : ByteArray := prog_14_method_44_code
def yX12_push : MethodName := ⟨RX12, "push", "(J)V"⟩
abbrev cX12_pop : ByteArray := prog_14_method_45_code
def yX12_pop : MethodName := ⟨RX12, "pop", "()J"⟩
abbrev cX12_one : ByteArray := prog_14_method_46_code
def yX12_one : MethodName := ⟨RX12, "one", "(IJJ)J"⟩
abbrev cX12_reckons : ByteArray := prog_14_method_47_code
def yX12_reckons : MethodName := ⟨RX12, "reckons", "(III)J"⟩
abbrev cX12_isGreen : ByteArray := prog_14_method_48_code
def yX12_isGreen : MethodName := ⟨RX12, "isGreen", "()Z"⟩
abbrev cX12_comingRound : ByteArray := prog_14_method_49_code
def yX12_comingRound : MethodName := ⟨RX12, "comingRound", "()I"⟩
abbrev cX12_windOn : ByteArray := prog_14_method_50_code
def yX12_windOn : MethodName := ⟨RX12, "windOn", "(I)I"⟩
abbrev cX12_windNow : ByteArray := prog_14_method_51_code
def yX12_windNow : MethodName := ⟨RX12, "windNow", "()I"⟩
abbrev cX12_isRing : ByteArray := prog_14_method_52_code
def yX12_isRing : MethodName := ⟨RX12, "isRing", "(I)Z"⟩
abbrev cX12_isArcher : ByteArray := prog_14_method_53_code
def yX12_isArcher : MethodName := ⟨RX12, "isArcher", "(I)Z"⟩
abbrev cX12_skillOf : ByteArray := prog_14_method_54_code
def yX12_skillOf : MethodName := ⟨RX12, "skillOf", "(I)I"⟩
abbrev cX12_illOf : ByteArray := prog_14_method_55_code
def yX12_illOf : MethodName := ⟨RX12, "illOf", "(I)I"⟩
abbrev cX12_arrowsOf : ByteArray := prog_14_method_56_code
def yX12_arrowsOf : MethodName := ⟨RX12, "arrowsOf", "(I)I"⟩
abbrev cX12_sumOver : ByteArray := prog_14_method_57_code
def yX12_sumOver : MethodName := ⟨RX12, "sumOver", "(I)I"⟩
abbrev cX12_driftOf : ByteArray := prog_14_method_58_code
def yX12_driftOf : MethodName := ⟨RX12, "driftOf", "(I)I"⟩
abbrev cX12_ringAt : ByteArray := prog_14_method_59_code
def yX12_ringAt : MethodName := ⟨RX12, "ringAt", "(I)I"⟩
abbrev cX12_begins : ByteArray := prog_14_method_60_code
def yX12_begins : MethodName := ⟨RX12, "begins", "()V"⟩
abbrev cX12_force : ByteArray := prog_14_method_61_code
def yX12_force : MethodName := ⟨RX12, "force", "(I)I"⟩
abbrev cX12_ring : ByteArray := prog_14_method_62_code
def yX12_ring : MethodName := ⟨RX12, "ring", "(II)I"⟩
abbrev cX12_archer : ByteArray := prog_14_method_63_code
def yX12_archer : MethodName := ⟨RX12, "archer", "(II)I"⟩
abbrev cX12_wind : ByteArray := prog_14_method_64_code
def yX12_wind : MethodName := ⟨RX12, "wind", "(I)I"⟩
abbrev cX12_summedBy : ByteArray := prog_14_method_65_code
def yX12_summedBy : MethodName := ⟨RX12, "summedBy", "(I)J"⟩
abbrev cX12_sumOf : ByteArray := prog_14_method_66_code
def yX12_sumOf : MethodName := ⟨RX12, "sumOf", "(II)J"⟩
abbrev cX12_choice : ByteArray := prog_14_method_67_code
def yX12_choice : MethodName := ⟨RX12, "choice", "(I)I"⟩
abbrev cX12_downOf : ByteArray := prog_14_method_68_code
def yX12_downOf : MethodName := ⟨RX12, "downOf", "(II)I"⟩
abbrev cX12_eases1 : ByteArray := prog_14_method_69_code
def yX12_eases1 : MethodName := ⟨RX12, "eases1", "(I)V"⟩
abbrev cX12_shoots : ByteArray := prog_14_method_70_code
def yX12_shoots : MethodName := ⟨RX12, "shoots", "(II)I"⟩
abbrev cX12_turnOf : ByteArray := prog_14_method_71_code
def yX12_turnOf : MethodName := ⟨RX12, "turnOf", "(I)Z"⟩
abbrev cX12_passes : ByteArray := prog_14_method_72_code
def yX12_passes : MethodName := ⟨RX12, "passes", "()I"⟩
abbrev cX12_passesAll : ByteArray := prog_14_method_73_code
def yX12_passesAll : MethodName := ⟨RX12, "passesAll", "(I)V"⟩
abbrev cX12_keepsAct : ByteArray := prog_14_method_74_code
def yX12_keepsAct : MethodName := ⟨RX12, "keepsAct", "()V"⟩
abbrev cX12_undo : ByteArray := prog_14_method_75_code
def yX12_undo : MethodName := ⟨RX12, "undo", "()I"⟩
abbrev cX12_round : ByteArray := prog_14_method_76_code
def yX12_round : MethodName := ⟨RX12, "round", "()I"⟩
abbrev cX12_shoot : ByteArray := prog_14_method_77_code
def yX12_shoot : MethodName := ⟨RX12, "shoot", "(II)I"⟩
abbrev cX12_pull : ByteArray := prog_14_method_78_code
def yX12_pull : MethodName := ⟨RX12, "pull", "(II)I"⟩
abbrev cX12_breath : ByteArray := prog_14_method_79_code
def yX12_breath : MethodName := ⟨RX12, "breath", "(I)I"⟩
abbrev cX12_teach : ByteArray := prog_14_method_80_code
def yX12_teach : MethodName := ⟨RX12, "teach", "(II)I"⟩
abbrev cX12_keeps : ByteArray := prog_14_method_81_code
def yX12_keeps : MethodName := ⟨RX12, "keeps", "()V"⟩
abbrev cX12_laysBack : ByteArray := prog_14_method_82_code
def yX12_laysBack : MethodName := ⟨RX12, "laysBack", "()V"⟩
abbrev cX12_ahead : ByteArray := prog_14_method_83_code
def yX12_ahead : MethodName := ⟨RX12, "ahead", "(III)I"⟩
abbrev cX12_easedIn : ByteArray := prog_14_method_84_code
def yX12_easedIn : MethodName := ⟨RX12, "easedIn", "(I)I"⟩
abbrev cX12_eased : ByteArray := prog_14_method_85_code
def yX12_eased : MethodName := ⟨RX12, "eased", "(I)I"⟩
abbrev cX12_allEased : ByteArray := prog_14_method_86_code
def yX12_allEased : MethodName := ⟨RX12, "allEased", "()I"⟩
abbrev cX12_down : ByteArray := prog_14_method_87_code
def yX12_down : MethodName := ⟨RX12, "down", "(II)I"⟩
abbrev cX12_easeBy : ByteArray := prog_14_method_88_code
def yX12_easeBy : MethodName := ⟨RX12, "easeBy", "(II)I"⟩
abbrev cX12_bestAim : ByteArray := prog_14_method_89_code
def yX12_bestAim : MethodName := ⟨RX12, "bestAim", "(II)I"⟩
abbrev cX12_nextRow : ByteArray := prog_14_method_90_code
def yX12_nextRow : MethodName := ⟨RX12, "nextRow", "(I)Z"⟩
abbrev cX12_arrowsIn : ByteArray := prog_14_method_91_code
def yX12_arrowsIn : MethodName := ⟨RX12, "arrowsIn", "(I)I"⟩
abbrev cX12_easeByRow : ByteArray := prog_14_method_92_code
def yX12_easeByRow : MethodName := ⟨RX12, "easeByRow", "(II)I"⟩
abbrev cX12_findsRow : ByteArray := prog_14_method_93_code
def yX12_findsRow : MethodName := ⟨RX12, "findsRow", "(II)I"⟩
abbrev cX12_row : ByteArray := prog_14_method_94_code
def yX12_row : MethodName := ⟨RX12, "row", "(III)I"⟩
abbrev cX12_hold : ByteArray := prog_14_method_95_code
def yX12_hold : MethodName := ⟨RX12, "hold", "(I)I"⟩
abbrev cX12_leastSkill : ByteArray := prog_14_method_96_code
def yX12_leastSkill : MethodName := ⟨RX12, "leastSkill", "(II)I"⟩
abbrev cX12_easeIn : ByteArray := prog_14_method_97_code
def yX12_easeIn : MethodName := ⟨RX12, "easeIn", "(I)I"⟩
abbrev cX12_set : ByteArray := prog_14_method_98_code
def yX12_set : MethodName := ⟨RX12, "set", "(III)I"⟩
abbrev cX12_givesAll : ByteArray := prog_14_method_99_code
def yX12_givesAll : MethodName := ⟨RX12, "givesAll", "(I)V"⟩
abbrev cX12_given : ByteArray := prog_14_method_100_code
def yX12_given : MethodName := ⟨RX12, "given", "(II)I"⟩
abbrev cX12_isRest : ByteArray := prog_14_method_101_code
def yX12_isRest : MethodName := ⟨RX12, "isRest", "(II)Z"⟩
abbrev cX12_hasThen : ByteArray := prog_14_method_102_code
def yX12_hasThen : MethodName := ⟨RX12, "hasThen", "(II)I"⟩
abbrev cX12_fillsRest : ByteArray := prog_14_method_103_code
def yX12_fillsRest : MethodName := ⟨RX12, "fillsRest", "(IIIII)V"⟩
abbrev cX12_rests : ByteArray := prog_14_method_104_code
def yX12_rests : MethodName := ⟨RX12, "rests", "(IIII)I"⟩
abbrev cX12_pence : ByteArray := prog_14_method_105_code
def yX12_pence : MethodName := ⟨RX12, "pence", "(II)I"⟩
abbrev cX12_note : ByteArray := prog_14_method_106_code
def yX12_note : MethodName := ⟨RX12, "note", "(III)I"⟩
abbrev cX12_areNotesSo : ByteArray := prog_14_method_107_code
def yX12_areNotesSo : MethodName := ⟨RX12, "areNotesSo", "(I)Z"⟩
abbrev cX12_areAllSo : ByteArray := prog_14_method_108_code
def yX12_areAllSo : MethodName := ⟨RX12, "areAllSo", "(II)Z"⟩
abbrev cX12_fillsFits : ByteArray := prog_14_method_109_code
def yX12_fillsFits : MethodName := ⟨RX12, "fillsFits", "(I)V"⟩
abbrev cX12_ruled : ByteArray := prog_14_method_110_code
def yX12_ruled : MethodName := ⟨RX12, "ruled", "(I)I"⟩
abbrev cX12_alikeAt : ByteArray := prog_14_method_111_code
def yX12_alikeAt : MethodName := ⟨RX12, "alikeAt", "(I)I"⟩
abbrev cX12_look : ByteArray := prog_14_method_112_code
def yX12_look : MethodName := ⟨RX12, "look", "(II)I"⟩
abbrev cX12_canBe : ByteArray := prog_14_method_113_code
def yX12_canBe : MethodName := ⟨RX12, "canBe", "(III)I"⟩
abbrev cX12_skilled : ByteArray := prog_14_method_114_code
def yX12_skilled : MethodName := ⟨RX12, "skilled", "(I)I"⟩
abbrev cX12_ails : ByteArray := prog_14_method_115_code
def yX12_ails : MethodName := ⟨RX12, "ails", "(I)I"⟩
abbrev cX12_seed : ByteArray := prog_14_method_116_code
def yX12_seed : MethodName := ⟨RX12, "seed", "(I)I"⟩
abbrev cX12_draw : ByteArray := prog_14_method_117_code
def yX12_draw : MethodName := ⟨RX12, "draw", "(I)I"⟩
abbrev cX12_gusts : ByteArray := prog_14_method_118_code
def yX12_gusts : MethodName := ⟨RX12, "gusts", "(IIII)I"⟩
abbrev cX12_count : ByteArray := prog_14_method_119_code
def yX12_count : MethodName := ⟨RX12, "count", "(I)I"⟩
abbrev cX12_image : ByteArray := prog_14_method_120_code
def yX12_image : MethodName := ⟨RX12, "image", "(I)I"⟩
abbrev cX12_back : ByteArray := prog_14_method_121_code
def yX12_back : MethodName := ⟨RX12, "back", "(I)I"⟩
def RJx145de : String := "java/io/Serializable"
def TJx145de : u_T := fun k => match k with
  | _ => ("", "", "", false)
def tyJx145de : Nat → FieldType := fun k => match k with
  | _ => .int
abbrev wsJx145de0 : List Cond := u_ws RJx145de TJx145de 0
theorem nmJx145de : ∀ a, a < 0 → ∀ b, b < 0 → a ≠ b → (TJx145de a).2.1 ≠ (TJx145de b).2.1 := by decide +kernel
theorem tyJx145de_ok : ∀ k, k < 0 → parseFieldDescriptor (TJx145de k).2.2.1 = some (tyJx145de k) := by decide +kernel
def RJx9f9b0 : String := "java/lang/CharSequence"
def TJx9f9b0 : u_T := fun k => match k with
  | _ => ("", "", "", false)
def tyJx9f9b0 : Nat → FieldType := fun k => match k with
  | _ => .int
abbrev wsJx9f9b00 : List Cond := u_ws RJx9f9b0 TJx9f9b0 0
theorem nmJx9f9b0 : ∀ a, a < 0 → ∀ b, b < 0 → a ≠ b → (TJx9f9b0 a).2.1 ≠ (TJx9f9b0 b).2.1 := by decide +kernel
theorem tyJx9f9b0_ok : ∀ k, k < 0 → parseFieldDescriptor (TJx9f9b0 k).2.2.1 = some (tyJx9f9b0 k) := by decide +kernel
def RJx8e188 : String := "java/lang/Cloneable"
def TJx8e188 : u_T := fun k => match k with
  | _ => ("", "", "", false)
def tyJx8e188 : Nat → FieldType := fun k => match k with
  | _ => .int
abbrev wsJx8e1880 : List Cond := u_ws RJx8e188 TJx8e188 0
theorem nmJx8e188 : ∀ a, a < 0 → ∀ b, b < 0 → a ≠ b → (TJx8e188 a).2.1 ≠ (TJx8e188 b).2.1 := by decide +kernel
theorem tyJx8e188_ok : ∀ k, k < 0 → parseFieldDescriptor (TJx8e188 k).2.2.1 = some (tyJx8e188 k) := by decide +kernel
def RJxb160c : String := "java/lang/Comparable"
def TJxb160c : u_T := fun k => match k with
  | _ => ("", "", "", false)
def tyJxb160c : Nat → FieldType := fun k => match k with
  | _ => .int
abbrev wsJxb160c0 : List Cond := u_ws RJxb160c TJxb160c 0
theorem nmJxb160c : ∀ a, a < 0 → ∀ b, b < 0 → a ≠ b → (TJxb160c a).2.1 ≠ (TJxb160c b).2.1 := by decide +kernel
theorem tyJxb160c_ok : ∀ k, k < 0 → parseFieldDescriptor (TJxb160c k).2.2.1 = some (tyJxb160c k) := by decide +kernel
def RJ9 : String := "java/lang/Math"
def TJ9 : u_T := fun k => match k with
  | _ => ("", "", "", false)
def tyJ9 : Nat → FieldType := fun k => match k with
  | _ => .int
abbrev wsJ90 : List Cond := u_ws RJ9 TJ9 0
theorem nmJ9 : ∀ a, a < 0 → ∀ b, b < 0 → a ≠ b → (TJ9 a).2.1 ≠ (TJ9 b).2.1 := by decide +kernel
theorem tyJ9_ok : ∀ k, k < 0 → parseFieldDescriptor (TJ9 k).2.2.1 = some (tyJ9 k) := by decide +kernel
abbrev cJ9_max_7cf53 : ByteArray := prog_16_method_65_code
def yJ9_max_7cf53 : MethodName := ⟨RJ9, "max", "(II)I"⟩
abbrev cJ9_min_7cf53 : ByteArray := prog_16_method_69_code
def yJ9_min_7cf53 : MethodName := ⟨RJ9, "min", "(II)I"⟩
def RJ0 : String := "java/lang/String"
def TJ0 : u_T := fun k => match k with
  | _ => ("", "", "", false)
def tyJ0 : Nat → FieldType := fun k => match k with
  | _ => .int
abbrev wsJ00 : List Cond := u_ws RJ0 TJ0 0
theorem nmJ0 : ∀ a, a < 0 → ∀ b, b < 0 → a ≠ b → (TJ0 a).2.1 ≠ (TJ0 b).2.1 := by decide +kernel
theorem tyJ0_ok : ∀ k, k < 0 → parseFieldDescriptor (TJ0 k).2.2.1 = some (tyJ0 k) := by decide +kernel
abbrev cJ0_length_8abf5 : ByteArray := prog_17_method_54_code
def yJ0_length_8abf5 : MethodName := ⟨RJ0, "length", "()I"⟩
abbrev cJ0_charAt_5068e : ByteArray := prog_17_method_56_code
def yJ0_charAt_5068e : MethodName := ⟨RJ0, "charAt", "(I)C"⟩
abbrev cJ0_coder_7d493 : ByteArray := prog_17_method_152_code
def yJ0_coder_7d493 : MethodName := ⟨RJ0, "coder", "()B"⟩
abbrev cJ0_isLatin1_aae02 : ByteArray := prog_17_method_154_code
def yJ0_isLatin1_aae02 : MethodName := ⟨RJ0, "isLatin1", "()Z"⟩
abbrev cJ0_checkIndex_df160 : ByteArray := prog_17_method_155_code
def yJ0_checkIndex_df160 : MethodName := ⟨RJ0, "checkIndex", "(II)V"⟩
def RJ1 : String := "java/lang/StringLatin1"
def TJ1 : u_T := fun k => match k with
  | _ => ("", "", "", false)
def tyJ1 : Nat → FieldType := fun k => match k with
  | _ => .int
abbrev wsJ10 : List Cond := u_ws RJ1 TJ1 0
theorem nmJ1 : ∀ a, a < 0 → ∀ b, b < 0 → a ≠ b → (TJ1 a).2.1 ≠ (TJ1 b).2.1 := by decide +kernel
theorem tyJ1_ok : ∀ k, k < 0 → parseFieldDescriptor (TJ1 k).2.2.1 = some (tyJ1 k) := by decide +kernel
abbrev cJ1_charAt_3b067 : ByteArray := prog_18_method_2_code
def yJ1_charAt_3b067 : MethodName := ⟨RJ1, "charAt", "([BI)C"⟩
def RJ2 : String := "java/lang/StringUTF16"
def TJ2 : u_T := fun k => match k with
  | _ => ("", "", "", false)
def tyJ2 : Nat → FieldType := fun k => match k with
  | _ => .int
abbrev wsJ20 : List Cond := u_ws RJ2 TJ2 0
theorem nmJ2 : ∀ a, a < 0 → ∀ b, b < 0 → a ≠ b → (TJ2 a).2.1 ≠ (TJ2 b).2.1 := by decide +kernel
theorem tyJ2_ok : ∀ k, k < 0 → parseFieldDescriptor (TJ2 k).2.2.1 = some (tyJ2 k) := by decide +kernel
abbrev cJ2_getChar_3b067 : ByteArray := prog_19_method_5_code
def yJ2_getChar_3b067 : MethodName := ⟨RJ2, "getChar", "([BI)C"⟩
abbrev cJ2_length_9d52b : ByteArray := prog_19_method_6_code
def yJ2_length_9d52b : MethodName := ⟨RJ2, "length", "([B)I"⟩
abbrev cJ2_charAt_3b067 : ByteArray := prog_19_method_83_code
def yJ2_charAt_3b067 : MethodName := ⟨RJ2, "charAt", "([BI)C"⟩
abbrev cJ2_checkIndex_2214a : ByteArray := prog_19_method_91_code
def yJ2_checkIndex_2214a : MethodName := ⟨RJ2, "checkIndex", "(I[B)V"⟩
def RJ10 : String := "java/lang/System"
def TJ10 : u_T := fun k => match k with
  | _ => ("", "", "", false)
def tyJ10 : Nat → FieldType := fun k => match k with
  | _ => .int
abbrev wsJ100 : List Cond := u_ws RJ10 TJ10 0
theorem nmJ10 : ∀ a, a < 0 → ∀ b, b < 0 → a ≠ b → (TJ10 a).2.1 ≠ (TJ10 b).2.1 := by decide +kernel
theorem tyJ10_ok : ∀ k, k < 0 → parseFieldDescriptor (TJ10 k).2.2.1 = some (tyJ10 k) := by decide +kernel
def RJxfd54e : String := "java/lang/constant/Constable"
def TJxfd54e : u_T := fun k => match k with
  | _ => ("", "", "", false)
def tyJxfd54e : Nat → FieldType := fun k => match k with
  | _ => .int
abbrev wsJxfd54e0 : List Cond := u_ws RJxfd54e TJxfd54e 0
theorem nmJxfd54e : ∀ a, a < 0 → ∀ b, b < 0 → a ≠ b → (TJxfd54e a).2.1 ≠ (TJxfd54e b).2.1 := by decide +kernel
theorem tyJxfd54e_ok : ∀ k, k < 0 → parseFieldDescriptor (TJxfd54e k).2.2.1 = some (tyJxfd54e k) := by decide +kernel
def RJx3cf43 : String := "java/lang/constant/ConstantDesc"
def TJx3cf43 : u_T := fun k => match k with
  | _ => ("", "", "", false)
def tyJx3cf43 : Nat → FieldType := fun k => match k with
  | _ => .int
abbrev wsJx3cf430 : List Cond := u_ws RJx3cf43 TJx3cf43 0
theorem nmJx3cf43 : ∀ a, a < 0 → ∀ b, b < 0 → a ≠ b → (TJx3cf43 a).2.1 ≠ (TJx3cf43 b).2.1 := by decide +kernel
theorem tyJx3cf43_ok : ∀ k, k < 0 → parseFieldDescriptor (TJx3cf43 k).2.2.1 = some (tyJx3cf43 k) := by decide +kernel
def RJ7 : String := "java/util/Arrays"
def TJ7 : u_T := fun k => match k with
  | _ => ("", "", "", false)
def tyJ7 : Nat → FieldType := fun k => match k with
  | _ => .int
abbrev wsJ70 : List Cond := u_ws RJ7 TJ7 0
theorem nmJ7 : ∀ a, a < 0 → ∀ b, b < 0 → a ≠ b → (TJ7 a).2.1 ≠ (TJ7 b).2.1 := by decide +kernel
theorem tyJ7_ok : ∀ k, k < 0 → parseFieldDescriptor (TJ7 k).2.2.1 = some (tyJ7 k) := by decide +kernel
abbrev cJ7_fill_53178 : ByteArray := prog_21_method_103_code
def yJ7_fill_53178 : MethodName := ⟨RJ7, "fill", "([II)V"⟩
abbrev cJ7_copyOf_59c91 : ByteArray := prog_21_method_123_code
def yJ7_copyOf_59c91 : MethodName := ⟨RJ7, "copyOf", "([II)[I"⟩
def RJ3 : String := "jdk/internal/util/Preconditions"
def TJ3 : u_T := fun k => match k with
  | _ => ("", "", "", false)
def tyJ3 : Nat → FieldType := fun k => match k with
  | _ => .int
abbrev wsJ30 : List Cond := u_ws RJ3 TJ3 0
theorem nmJ3 : ∀ a, a < 0 → ∀ b, b < 0 → a ≠ b → (TJ3 a).2.1 ≠ (TJ3 b).2.1 := by decide +kernel
theorem tyJ3_ok : ∀ k, k < 0 → parseFieldDescriptor (TJ3 k).2.2.1 = some (tyJ3 k) := by decide +kernel
abbrev cJ3_checkIndex_8e157 : ByteArray := prog_22_method_11_code
def yJ3_checkIndex_8e157 : MethodName := ⟨RJ3, "checkIndex", "(IILjava/util/function/BiFunction;)I"⟩
def RL : String := "StrawButtsLaw"
abbrev cL_law : ByteArray := code
def yL_law : MethodName := ⟨RL, "law", "([I)Z"⟩
abbrev vwCl : List vw_C := [(RX0, TX0, 3), (RX1, TX1, 1), (RX2, TX2, 5), (RX3, TX3, 1), (RX4, TX4, 6), (RX5, TX5, 4), (RX6, TX6, 8), (RX7, TX7, 2), (RX8, TX8, 3), (RX9, TX9, 3), (RX10, TX10, 11), (RX11, TX11, 11), (RX12, TX12, 39)]
/-! ===== END ===== -/
end
section
/-! ===== this claim's own words: the tables' words that a call keeps, what every state keeps, contracts of methods that write nothing, contracts of methods that write ===== -/
def kGW : List Cond := lw_tbl.filter goodWord
theorem kin {w : Cond} (h : w ∈ lw_tbl) (g : goodWord w = true) : w ∈ kGW := List.mem_filter.mpr ⟨h, g⟩
theorem kin1 {i : Nat} {w : Cond} (h : tables_1_1[i]? = some w) (g : goodWord w = true) : w ∈ kGW := kin (List.mem_append_right _ (show w ∈ tables_1 from List.mem_append_left _ (List.mem_of_getElem? h))) g
theorem kin2 {i : Nat} {w : Cond} (h : tables_1_2[i]? = some w) (g : goodWord w = true) : w ∈ kGW := kin (List.mem_append_right _ (show w ∈ tables_1 from List.mem_append_right _ (List.mem_append_left _ (List.mem_of_getElem? h)))) g
theorem kin3 {i : Nat} {w : Cond} (h : tables_1_3[i]? = some w) (g : goodWord w = true) : w ∈ kGW := kin (List.mem_append_right _ (show w ∈ tables_1 from List.mem_append_right _ (List.mem_append_right _ (List.mem_append_left _ (List.mem_of_getElem? h))))) g
theorem kin4 {i : Nat} {w : Cond} (h : tables_1_4[i]? = some w) (g : goodWord w = true) : w ∈ kGW := kin (List.mem_append_right _ (show w ∈ tables_1 from List.mem_append_right _ (List.mem_append_right _ (List.mem_append_right _ (List.mem_append_left _ (List.mem_of_getElem? h)))))) g
theorem kin5 {i : Nat} {w : Cond} (h : tables_1_5[i]? = some w) (g : goodWord w = true) : w ∈ kGW := kin (List.mem_append_right _ (show w ∈ tables_1 from List.mem_append_right _ (List.mem_append_right _ (List.mem_append_right _ (List.mem_append_right _ (List.mem_append_left _ (List.mem_of_getElem? h))))))) g
theorem kin6 {i : Nat} {w : Cond} (h : tables_1_6[i]? = some w) (g : goodWord w = true) : w ∈ kGW := kin (List.mem_append_right _ (show w ∈ tables_1 from List.mem_append_right _ (List.mem_append_right _ (List.mem_append_right _ (List.mem_append_right _ (List.mem_append_right _ (List.mem_append_left _ (List.mem_of_getElem? h)))))))) g
theorem kin7 {i : Nat} {w : Cond} (h : tables_1_7[i]? = some w) (g : goodWord w = true) : w ∈ kGW := kin (List.mem_append_right _ (show w ∈ tables_1 from List.mem_append_right _ (List.mem_append_right _ (List.mem_append_right _ (List.mem_append_right _ (List.mem_append_right _ (List.mem_append_right _ (List.mem_of_getElem? h)))))))) g
theorem kinp {i : Nat} {q : MethodName × Nat} (h : lw_privs[i]? = some q) (g : goodWord (.selects q.1.cls q.1 q.1) = true) : Cond.selects q.1.cls q.1 q.1 ∈ kGW := kin (List.mem_append_left _ (List.mem_map.mpr ⟨q, List.mem_of_getElem? h, rfl⟩)) g
theorem kG_good : GoodIn kGW kGW := fun w h => ⟨h, good_of_word (List.mem_filter.mp h).2⟩
/-- a method's words: its code, and all that the tables say -/
abbrev kw (y : MethodName) (cc : ByteArray) (n : Nat) (ret : Option FieldType) : List Cond := .code y cc n ret :: kGW
def kMV (C : String) (y : MethodName) (bytes : ByteArray) (maxL : Nat) (ret : Option FieldType) (n : Nat) : Prop := Cond.instanceMethod y ∈ kGW ∧ Cond.selects C y y ∈ kGW ∧ Cond.initialized C ∈ kGW ∧ Cond.code y bytes maxL ret ∈ kGW ∧ (y.cls = C ∧ y.cls ≠ "java/lang/invoke/MethodHandle" ∧ y.cls ≠ "java/lang/invoke/VarHandle" ∧ (parseMethodDescriptor y.desc).map (fun d => d.parameters.length) = some n)
def kMS (y : MethodName) (bytes : ByteArray) (maxL : Nat) (ret : Option FieldType) (n : Nat) : Prop := Cond.static y ∈ kGW ∧ Cond.initialized y.cls ∈ kGW ∧ Cond.code y bytes maxL ret ∈ kGW ∧ (y.cls ≠ "java/lang/invoke/MethodHandle" ∧ y.cls ≠ "java/lang/invoke/VarHandle" ∧ (parseMethodDescriptor y.desc).map (fun d => d.parameters.length) = some n)
def kMI (y : MethodName) (bytes : ByteArray) (maxL : Nat) (n : Nat) : Prop := Cond.instanceMethod y ∈ kGW ∧ Cond.initialized y.cls ∈ kGW ∧ Cond.code y bytes maxL none ∈ kGW ∧ y.name = "<init>" ∧ (y.cls ≠ "java/lang/invoke/MethodHandle" ∧ y.cls ≠ "java/lang/invoke/VarHandle" ∧ (parseMethodDescriptor y.desc).map (fun d => d.parameters.length) = some n)
theorem k_gW {y : MethodName} {bytes : ByteArray} {maxL : Nat} {ret : Option FieldType} (h : Cond.code y bytes maxL ret ∈ kGW) : GoodIn kGW (kw y bytes maxL ret) := fun w hw => (List.mem_cons.mp hw).elim (fun e => e ▸ kG_good _ h) (fun h => kG_good w h)
theorem k_gV {own C : String} {index : Nat} {y : MethodName} {bytes : ByteArray} {maxL n : Nat} {ret : Option FieldType} (hm : Cond.methodLink own index y ∈ kGW) (h : kMV C y bytes maxL ret n) : GoodIn kGW (wsV own index C y (kw y bytes maxL ret)) := by
  intro w hw
  unfold wsV at hw
  rcases List.mem_append.mp hw with q | q
  · refine kG_good w ?_
    simp only [List.mem_cons, List.not_mem_nil, or_false] at q
    rcases q with rfl | rfl | rfl | rfl
    · exact hm
    · exact h.1
    · exact h.2.1
    · exact h.2.2.1
  · exact k_gW h.2.2.2.1 w q
theorem k_gS {own : String} {index : Nat} {y : MethodName} {bytes : ByteArray} {maxL n : Nat} {ret : Option FieldType} (hm : Cond.methodLink own index y ∈ kGW) (h : kMS y bytes maxL ret n) : GoodIn kGW (va_wsS own index y (kw y bytes maxL ret)) := by
  intro w hw
  unfold va_wsS at hw
  rcases List.mem_append.mp hw with q | q
  · refine kG_good w ?_
    simp only [List.mem_cons, List.not_mem_nil, or_false] at q
    rcases q with rfl | rfl | rfl
    · exact hm
    · exact h.1
    · exact h.2.1
  · exact k_gW h.2.2.1 w q
def kNest : List (String × Nat × MethodName × String) := [(RX11, 9, yX10_init, RX11), (RX11, 18, yX3_init, RX11), (RX3, 11, yX1_init, RX11), (RX11, 25, yX8_init, RX11), (RX11, 42, yX4_init, RX11), (RX4, 11, yX1_init, RX11), (RX4, 23, yX5_init, RX11), (RX11, 53, yX0_init, RX11), (RX11, 60, yX6_init, RX11), (RX6, 11, yX1_init, RX11), (RX11, 67, yX2_init, RX11), (RX11, 74, yX9_init, RX11), (RX3, 85, yX11_within, RX11), (RX1, 27, yX11_within, RX11), (RX9, 52, yX11_within, RX11)]
def kNN (U : State) : Prop := ∀ q ∈ kNest, va_Nw (.methodLinkNest q.1 q.2.1 q.2.2.1 q.2.2.2) U
theorem kNN.warm {s U : State} (hW : s.WarmedH U.vm) (h : kNN s) : kNN U := fun q hq => va_Nw.warmM hW (h q hq)
theorem kNN.same {s U : State} (hv : s.vm = U.vm) (h : kNN s) : kNN U := fun q hq => va_Nw.same rfl hv (h q hq)
def kE (D : va_G) (T : List (ClassId × FieldType)) (U : State) : Prop := va_K D vwCl T U ∧ kNN U ∧ va_AO "StrawButts$Moment" U ∧ va_AO "StrawButts$Rule" U ∧ va_AOA .int U
theorem kE.warm {D : va_G} {T : List (ClassId × FieldType)} {s U : State} (hW : s.WarmedH U.vm) (h : kE D T s) : kE D T U := ⟨va_K.moved hW.alike h.1, h.2.1.warm hW, va_AO.moved hW.alike h.2.2.1, va_AO.moved hW.alike h.2.2.2.1, va_AOA.moved hW.alike h.2.2.2.2⟩
theorem kE.calling {D : va_G} {T : List (ClassId × FieldType)} {U : State} {g : JFrame} {mk : MethodId} {a : Array Value} (h : kE D T U) : kE D T (U.calling g mk a) := ⟨va_K.moved (u := U) (U := U.calling g mk a) (Vm.Alike.refl U.vm) h.1, kNN.same (s := U) rfl h.2.1, va_AO.moved (u := U) (U := U.calling g mk a) (Vm.Alike.refl U.vm) h.2.2.1, va_AO.moved (u := U) (U := U.calling g mk a) (Vm.Alike.refl U.vm) h.2.2.2.1, va_AOA.moved (u := U) (U := U.calling g mk a) (Vm.Alike.refl U.vm) h.2.2.2.2⟩
/-- what holds of a method's frame all along -/
def kF (p : Program) (s : State) (m : MethodId) (meth : Method) (c : Code) (cc : ByteArray) (nL : Nat) (ret : Option FieldType) (args : Array Value) (own : String) : Prop := p.tables.exec = Jvm.exec ∧ c.code = cc ∧ meth.sig.returnType = ret ∧ c.maxLocals = nL ∧ s.vm.findClass own = some m.cls ∧ (∀ w ∈ kGW, w.before args s = true) ∧ meth.locks = false
abbrev kR (fr lo : Nat) : Room := { frames := fr, cells := 0, slots := 0, locals := lo }
abbrev kRm (fr lo mc ms : Nat) : Room := { frames := fr, cells := mc, slots := ms, locals := lo }
def kPc (D : va_G) (T : List (ClassId × FieldType)) (w : va_W) (U : State) : Prop := va_P D vwCl w U.heap ∧ kE D T U
def kQ (post : Int32 → Prop) : Array Value → State → Outcome → State → Prop := fun _ st oc t => ∃ r : Int32, oc = .returned (some (.int r)) ∧ post r ∧ t.heap = st.heap
/-- a method that writes nothing: its answer -/
def KP (l : Launch) (y : MethodName) (cc : ByteArray) (nL : Nat) (ret : Option FieldType) (fr lo : Nat) (D : va_G) (T : List (ClassId × FieldType)) (as : List Value) (w : va_W) (post : Int32 → Prop) : Prop := Met l y (kw y cc nL ret) (kR fr lo) (va_Pc as (kPc D T w)) (kQ post) 0 0 (fun _ => False)
def kWc (D : va_G) (T : List (ClassId × FieldType)) (w : va_W) (sz : Nat) (U : State) : Prop := U.heap.size = sz ∧ va_P D vwCl w U.heap ∧ kE D T U ∧ va_D (fun _ => True) w
def kBw {S : Type} (D : va_G) (A : Nat → Prop) (wf : S → va_W) (u : S) (t : State) : Prop := va_P D vwCl (wf u) t.heap ∧ va_D A (wf u)
/-- a method that writes: its answer, its cells behind it -/
def KI (l : Launch) (y : MethodName) (cc : ByteArray) (nL : Nat) (ret : Option FieldType) (fr lo : Nat) (D : va_G) (T : List (ClassId × FieldType)) (as : List Value) (w : va_W) {S : Type} (post : Int32 → S → Prop) (wf : S → va_W) (mc ms : Nat) : Prop := ∀ sz : Nat, Met l y (kw y cc nL ret) (kRm fr lo mc ms) (va_Pc as (kWc D T w sz)) (va_Qi post (kBw D (va_A w sz) wf) (va_A w sz)) mc ms (va_A w sz)
def KV (l : Launch) (y : MethodName) (cc : ByteArray) (nL : Nat) (fr lo : Nat) (D : va_G) (T : List (ClassId × FieldType)) (as : List Value) (w : va_W) {S : Type} (post : S → Prop) (wf : S → va_W) (mc ms : Nat) : Prop := ∀ sz : Nat, Met l y (kw y cc nL none) (kRm fr lo mc ms) (va_Pc as (kWc D T w sz)) (va_Qv post (kBw D (va_A w sz) wf) (va_A w sz)) mc ms (va_A w sz)
theorem kPc.blind {D : va_G} {T : List (ClassId × FieldType)} {w : va_W} {as : List Value} : FrameBlind (va_Pc as (kPc D T w)) := fun a U g mk q => ⟨q.1, q.2.1, q.2.2.calling⟩
theorem kWc.blind {D : va_G} {T : List (ClassId × FieldType)} {w : va_W} {as : List Value} {sz : Nat} : FrameBlind (va_Pc as (kWc D T w sz)) := fun a U g mk q => ⟨q.1, q.2.1, q.2.2.1, q.2.2.2.1.calling, q.2.2.2.2⟩
theorem KP.of {l : Launch} {y : MethodName} {fr lo : Nat} {D : va_G} {T : List (ClassId × FieldType)} {as : List Value} {w : va_W} {post : Int32 → Prop} {cc : ByteArray} {maxL : Nat} {ret : Option FieldType} (hy : plainName y.cls = true) (hlen : (lg_sl as).length ≤ maxL)
    (body : ∀ (p : Program) (e : Env) (s : State) (m : MethodId) (below : List Frame) (meth : Method) (c : Code) (ls : Array Slot), kF p s m meth c cc maxL ret as.toArray y.cls → kE D T s → va_P D vwCl w s.heap → lv_has ls maxL (lv_args 0 as) → W p l e (kR fr lo) s m as.toArray below meth c s.heap [] 0 0 (MQ below (kQ post) as.toArray s 0 0 (fun _ => False)) (F0 m 0 ls [])) : KP l y cc maxL ret fr lo D T as w post := by
  refine Met.ofW (cc := cc) (maxL := maxL) (ret := ret) hy rfl ?_
  intro p e s m args below meth c s₁ B hml hv
  obtain ⟨rfl, hP, hE⟩ := hv
  have hl := lv_entry as (n := maxL) hlen
  rw [lg_entry_eq]
  exact body p e s m below meth c _ ⟨B.exec, B.bytes, B.returns, hml, findClass_of_methodNamed B.named, fun w h => atoms_spec (ws := kw y cc maxL ret) B.pre w (List.mem_cons_of_mem _ h), B.notSynchronized⟩ hE hP hl
theorem KI.of {l : Launch} {y : MethodName} {fr lo mc ms : Nat} {D : va_G} {T : List (ClassId × FieldType)} {as : List Value} {w : va_W} {S : Type} {post : Int32 → S → Prop} {wf : S → va_W} {cc : ByteArray} {maxL : Nat} {ret : Option FieldType} (hy : plainName y.cls = true) (hlen : (lg_sl as).length ≤ maxL)
    (body : ∀ (p : Program) (e : Env) (s : State) (m : MethodId) (below : List Frame) (meth : Method) (c : Code) (ls : Array Slot) (A : Nat → Prop), kF p s m meth c cc maxL ret as.toArray y.cls → kE D T s → va_P D vwCl w s.heap → va_D A w → (∀ q : Nat, s.heap.size ≤ q → A q) → va_S A s.heap s.heap [] → lv_has ls maxL (lv_args 0 as) → W p l e (kRm fr lo mc ms) s m as.toArray below meth c s.heap [] 0 0 (MQ below (va_Qi post (kBw D A wf) A) as.toArray s mc ms A) (F0 m 0 ls [])) : KI l y cc maxL ret fr lo D T as w post wf mc ms := by
  intro sz
  refine Met.ofW (cc := cc) (maxL := maxL) (ret := ret) hy rfl ?_
  intro p e s m args below meth c s₁ B hml hv
  obtain ⟨rfl, rfl, hP, hE, hD0⟩ := hv
  have hl := lv_entry as (n := maxL) hlen
  rw [lg_entry_eq]
  exact body p e s m below meth c _ (va_A w s.heap.size) ⟨B.exec, B.bytes, B.returns, hml, findClass_of_methodNamed B.named, fun w h => atoms_spec (ws := kw y cc maxL ret) B.pre w (List.mem_cons_of_mem _ h), B.notSynchronized⟩ hE hP (hD0.self (sz := s.heap.size)) (fun q h => Or.inr h) va_S.rf hl
theorem KV.of {l : Launch} {y : MethodName} {fr lo mc ms : Nat} {D : va_G} {T : List (ClassId × FieldType)} {as : List Value} {w : va_W} {S : Type} {post : S → Prop} {wf : S → va_W} {cc : ByteArray} {maxL : Nat} (hy : plainName y.cls = true) (hlen : (lg_sl as).length ≤ maxL)
    (body : ∀ (p : Program) (e : Env) (s : State) (m : MethodId) (below : List Frame) (meth : Method) (c : Code) (ls : Array Slot) (A : Nat → Prop), kF p s m meth c cc maxL none as.toArray y.cls → meth.name = y.name → kE D T s → va_P D vwCl w s.heap → va_D A w → (∀ q : Nat, s.heap.size ≤ q → A q) → va_S A s.heap s.heap [] → lv_has ls maxL (lv_args 0 as) → W p l e (kRm fr lo mc ms) s m as.toArray below meth c s.heap [] 0 0 (MQ below (va_Qv post (kBw D A wf) A) as.toArray s mc ms A) (F0 m 0 ls [])) : KV l y cc maxL fr lo D T as w post wf mc ms := by
  intro sz
  refine Met.ofW (cc := cc) (maxL := maxL) (ret := none) hy rfl ?_
  intro p e s m args below meth c s₁ B hml hv
  obtain ⟨rfl, rfl, hP, hE, hD0⟩ := hv
  have hl := lv_entry as (n := maxL) hlen
  rw [lg_entry_eq]
  exact body p e s m below meth c _ (va_A w s.heap.size) ⟨B.exec, B.bytes, B.returns, hml, findClass_of_methodNamed B.named, fun w h => atoms_spec (ws := kw y cc maxL none) B.pre w (List.mem_cons_of_mem _ h), B.notSynchronized⟩ (name_of_methodNamed B.named B.method).1 hE hP (hD0.self (sz := s.heap.size)) (fun q h => Or.inr h) va_S.rf hl
section KB
variable {p : Program} {l : Launch} {e : Env} {R : Room} {s : State} {m : MethodId} {args : Array Value} {below : List Frame} {meth : Method} {c : Code} {H : Heap} {locs : List Loc} {cells slots : Nat} {Q : State → Prop}
variable {cc bytes : ByteArray} {pc nL maxL index n ci : Nat} {ls : Array Slot} {rest st As : List Value} {D : va_G} {T : List (ClassId × FieldType)} {A : Nat → Prop} {w W0 wr : va_W} {H0 : Heap} {ret ret' : Option FieldType} {b : Nat} {fs : List Value} {cq : vw_C}
variable {y : MethodName} {fr lo mc ms : Nat} {own host : String}
/-- the top is another number -/
theorem k_top {x z : Int32} (h : x = z) (k : W p l e R s m args below meth c H locs cells slots Q (F0 m pc ls (.int z :: rest))) : W p l e R s m args below meth c H locs cells slots Q (F0 m pc ls (.int x :: rest)) := h ▸ k
theorem KP.rt {post : Int32 → Prop} {v : Int32} {ty : FieldType} (F : kF p s m meth c cc nL (some ty) args own) (hn : narrow ty (.int v) = .int v) (hp : post v) (hdg : decode cc pc = .ok (.ireturn, 1)) : W p l e R s m args below meth c s.heap [] 0 0 (MQ below (kQ post) args s 0 0 (fun _ => False)) (F0 m pc ls [.int v]) :=
  W.zret F.1 F.2.1 F.2.2.1 hn (fun t ht _ => ⟨v, rfl, hp, ht⟩) (fun q h => by cases h) hdg F.2.2.2.2.2.2
theorem KI.rt {S : Type} {post : Int32 → S → Prop} {wf : S → va_W} {v : Int32} {ty : FieldType} (u : S) (F : kF p s m meth c cc nL (some ty) args own) (hn : narrow ty (.int v) = .int v) (hP : va_P D vwCl (wf u) H) (hD : va_D A (wf u)) (hS : va_S A s.heap H locs) (hp : post v u) (hc : cells ≤ mc) (hs : slots ≤ ms) (hdg : decode cc pc = .ok (.ireturn, 1)) : W p l e R s m args below meth c H locs cells slots (MQ below (va_Qi post (kBw D A wf) A) args s mc ms A) (F0 m pc ls [.int v]) :=
  W.widen hc hs (W.zret F.1 F.2.1 F.2.2.1 hn (fun t ht _ => ⟨⟨v, u, rfl, hp, by rw [ht]; exact hP, hD⟩, hS.F ht⟩) hS.2.2 hdg F.2.2.2.2.2.2)
theorem KV.rt {S : Type} {post : S → Prop} {wf : S → va_W} (u : S) (F : kF p s m meth c cc nL none args own) (hP : va_P D vwCl (wf u) H) (hD : va_D A (wf u)) (hS : va_S A s.heap H locs) (hp : post u) (hc : cells ≤ mc) (hs : slots ≤ ms) (hdg : decode cc pc = .ok (.return_, 1)) : W p l e R s m args below meth c H locs cells slots (MQ below (va_Qv post (kBw D A wf) A) args s mc ms A) (F0 m pc ls []) :=
  W.widen hc hs (W.vret F.1 F.2.1 F.2.2.1 (fun t ht _ => ⟨⟨u, rfl, hp, by rw [ht]; exact hP, hD⟩, hS.F ht⟩) hS.2.2 hdg F.2.2.2.2.2.2)
/-- behind a call that wrote nothing -/
theorem kcP {post : Int32 → Prop} {a : Array Value} (hr : va_Run p l e R s m args below meth c H locs cells slots 0 0 (F0 m pc ls st) rest (kQ post a) (fun _ => False)) (kk : ∀ r : Int32, post r → W p l e R s m args below meth c H locs cells slots Q (F0 m (pc + 3) ls (.int r :: rest))) : W p l e R s m args below meth c H locs cells slots Q (F0 m pc ls st) := by
  intro T hT X
  obtain ⟨v, st₀, t, T', L, h0, X', hL, e1, e2, ⟨r, hv, hp, hh⟩, st⟩ := hr T hT X
  cases hv
  obtain ⟨t2, a1, b1⟩ := kk r hp T' (by rw [e1, hh, h0]) (Stand.forget X' (fun q h => (hL q h).elim))
  exact ⟨t2, st t2 a1, b1⟩
/-- calls of methods that write nothing: by invokevirtual, invokestatic, and of a nest mate's -/
theorem kcV {post : Int32 → Prop} {C : String} (F : kF p s m meth c cc nL ret args own) (hE : kE D T s) (hP : va_P D vwCl W0 H) (hl : ls.size = nL) (hM : KP l y bytes maxL ret' fr lo D T (.ref b :: As) w post) (hm : Cond.methodLink own index y ∈ kGW) (hY : kMV C y bytes maxL ret' n) (hR : fr + 1 ≤ R.frames ∧ 8 + (maxL + 11) + lo ≤ R.locals) (is : List Nat) (hsub : is.filterMap (fun i => W0[i]?) = w) (hb0 : w[0]? = some (b, .inr (ci, fs))) (hci : vwCl[ci]? = some cq) (hq : cq.1 = C) (hn : As.length = n) (hst : st = As.reverse ++ .ref b :: rest) (hW : (rest.map fun v => v.category).sum ≤ 8) (hf : cells ≤ R.cells ∧ slots ≤ R.slots) (hdg : decode cc pc = .ok (.invokevirtual index, 3))
    (kk : ∀ r : Int32, post r → W p l e R s m args below meth c H locs cells slots Q (F0 m (pc + 3) ls (.int r :: rest))) : W p l e R s m args below meth c H locs cells slots Q (F0 m pc ls st) := by
  have hPc := hP.sub is hsub
  obtain ⟨f1, f2, f3, f4, f5, f6, f7⟩ := F
  subst hq
  exact kcP (va_runV (As := As) (rest := rest) (nL := nL) ⟨f1, f2, f4, f5, f6⟩ hM (cwV n f6 (k_gV hm hY) rfl rfl rfl hY.2.2.2.2 hR) ⟨kPc.blind, va_recv hE.1 hPc hci hb0, fun U hU hW => ⟨rfl, by rw [hU]; exact hPc, hE.warm hW⟩⟩ rfl hn hl hst (lv_room hW) hdg hf) kk
theorem kcS {post : Int32 → Prop} (F : kF p s m meth c cc nL ret args own) (hE : kE D T s) (hP : va_P D vwCl W0 H) (hl : ls.size = nL) (hM : KP l y bytes maxL ret' fr lo D T As w post) (hm : Cond.methodLink own index y ∈ kGW) (hY : kMS y bytes maxL ret' n) (hR : fr + 1 ≤ R.frames ∧ 8 + (maxL + 11) + lo ≤ R.locals) (is : List Nat) (hsub : is.filterMap (fun i => W0[i]?) = w) (hn : As.length = n) (hst : st = As.reverse ++ rest) (hW : (rest.map fun v => v.category).sum ≤ 8) (hf : cells ≤ R.cells ∧ slots ≤ R.slots) (hdg : decode cc pc = .ok (.invokestatic index, 3))
    (kk : ∀ r : Int32, post r → W p l e R s m args below meth c H locs cells slots Q (F0 m (pc + 3) ls (.int r :: rest))) : W p l e R s m args below meth c H locs cells slots Q (F0 m pc ls st) := by
  have hPc := hP.sub is hsub
  obtain ⟨f1, f2, f3, f4, f5, f6, f7⟩ := F
  exact kcP (va_runS (As := As) (rest := rest) (nL := nL) ⟨f1, f2, f4, f5, f6⟩ hM (va_cwS n f6 (k_gS hm hY) rfl rfl rfl hY.2.2.2 hR) ⟨kPc.blind, fun U hU hW => ⟨rfl, by rw [hU]; exact hPc, hE.warm hW⟩⟩ rfl hn hl hst (lv_room hW) hdg hf) kk
theorem kcSN {post : Int32 → Prop} (F : kF p s m meth c cc nL ret args own) (hE : kE D T s) (hP : va_P D vwCl W0 H) (hl : ls.size = nL) (hM : KP l y bytes maxL ret' fr lo D T As w post) (hY : kMS y bytes maxL ret' n) (hne : (own, index, y, host) ∈ kNest) (hR : fr + 1 ≤ R.frames ∧ 8 + (maxL + 11) + lo ≤ R.locals) (is : List Nat) (hsub : is.filterMap (fun i => W0[i]?) = w) (hn : As.length = n) (hst : st = As.reverse ++ rest) (hW : (rest.map fun v => v.category).sum ≤ 8) (hf : cells ≤ R.cells ∧ slots ≤ R.slots) (hdg : decode cc pc = .ok (.invokestatic index, 3))
    (kk : ∀ r : Int32, post r → W p l e R s m args below meth c H locs cells slots Q (F0 m (pc + 3) ls (.int r :: rest))) : W p l e R s m args below meth c H locs cells slots Q (F0 m pc ls st) := by
  have hPc := hP.sub is hsub
  obtain ⟨f1, f2, f3, f4, f5, f6, f7⟩ := F
  exact kcP (va_runSN (As := As) (rest := rest) (nL := nL) (host := host) ⟨f1, f2, f4, f5, f6⟩ hM ⟨va_cnB n f6 (k_gW hY.2.2.1) rfl rfl rfl (hE.2.1 _ hne) (f6 _ hY.2.1) hY.2.2.2 hR, f6 _ hY.1, trivial⟩ ⟨kPc.blind, fun U hU hW => ⟨rfl, by rw [hU]; exact hPc, hE.warm hW⟩⟩ rfl hn hl hst (lv_room hW) hdg hf) kk
/-- behind a call that wrote -/
theorem kwI {S : Type} {post : Int32 → S → Prop} {wf : S → va_W} {a : Array Value} (hr : va_Run p l e R s m args below meth c H locs cells slots mc ms (F0 m pc ls st) rest (va_Qi post (kBw D (va_A w H.size) wf) (va_A w H.size) a) (va_A w H.size)) (hP : va_P D vwCl W0 H) (hD : va_D A W0) (hS : va_S A H0 H locs) (hA : ∀ q : Nat, H0.size ≤ q → A q) (isC isR : List Nat) (hC : isC.map (fun i => W0[i]?) = w.map some) (hRr : isR.map (fun i => W0[i]?) = wr.map some) (hn1 : va_nd isR = true) (hdis : ∀ i ∈ isR, i ∉ isC)
    (kk : ∀ (r : Int32) (u : S) (H1 : Heap) (locs1 : List Loc), post r u → va_P D vwCl (wr ++ wf u) H1 → va_D A (wr ++ wf u) → va_S A H0 H1 locs1 → W p l e R s m args below meth c H1 locs1 (cells + mc) (slots + ms) Q (F0 m (pc + 3) ls (.int r :: rest))) : W p l e R s m args below meth c H locs cells slots Q (F0 m pc ls st) := by
  have hFc := va_free (wc := w) hD hS hA isC hC
  refine va_calli hr hS (fun q _ h => hFc q h) hFc (fun r u t H1 locs1 ht hvm hw hB hz1 hk1 hS1 => ?_)
  obtain ⟨hP1, hD1⟩ := hB
  rw [ht] at hP1
  obtain ⟨hP2, hD2⟩ := va_join (wr := wr) (w1 := wf u) hP hD isC isR hC hRr hn1 hdis hk1 hFc hP1 hD1
  exact kk r u H1 locs1 hw hP2 hD2 hS1
theorem kwV {S : Type} {post : S → Prop} {wf : S → va_W} {a : Array Value} (hr : va_Run p l e R s m args below meth c H locs cells slots mc ms (F0 m pc ls st) rest (va_Qv post (kBw D (va_A w H.size) wf) (va_A w H.size) a) (va_A w H.size)) (hP : va_P D vwCl W0 H) (hD : va_D A W0) (hS : va_S A H0 H locs) (hA : ∀ q : Nat, H0.size ≤ q → A q) (isC isR : List Nat) (hC : isC.map (fun i => W0[i]?) = w.map some) (hRr : isR.map (fun i => W0[i]?) = wr.map some) (hn1 : va_nd isR = true) (hdis : ∀ i ∈ isR, i ∉ isC)
    (kk : ∀ (u : S) (H1 : Heap) (locs1 : List Loc), post u → va_P D vwCl (wr ++ wf u) H1 → va_D A (wr ++ wf u) → va_S A H0 H1 locs1 → W p l e R s m args below meth c H1 locs1 (cells + mc) (slots + ms) Q (F0 m (pc + 3) ls rest)) : W p l e R s m args below meth c H locs cells slots Q (F0 m pc ls st) := by
  have hFc := va_free (wc := w) hD hS hA isC hC
  refine va_callv hr hS (fun q _ h => hFc q h) hFc (fun u t H1 locs1 ht hvm hw hB hz1 hk1 hS1 => ?_)
  obtain ⟨hP1, hD1⟩ := hB
  rw [ht] at hP1
  obtain ⟨hP2, hD2⟩ := va_join (wr := wr) (w1 := wf u) hP hD isC isR hC hRr hn1 hdis hk1 hFc hP1 hD1
  exact kk u H1 locs1 hw hP2 hD2 hS1
theorem k_pick {is : List Nat} (h : is.map (fun i => W0[i]?) = w.map some) : is.filterMap (fun i => W0[i]?) = w := by
  have h1 : is.filterMap (fun i => W0[i]?) = (is.map (fun i => W0[i]?)).filterMap id := by rw [List.filterMap_map]; rfl
  rw [h1, h, List.filterMap_map]
  have h2 : (id ∘ some : Nat × va_E → Option (Nat × va_E)) = some := rfl
  rw [h2, List.filterMap_some]
theorem k_pre {sz : Nat} (hE : kE D T s) (hP : va_P D vwCl W0 H) (hD : va_D A W0) (hsz : H.size = sz) (is : List Nat) (hn : va_nd is = true) (h : is.map (fun i => W0[i]?) = w.map some) : ∀ U : State, U.heap = H → s.WarmedH U.vm → va_Pc As (kWc D T w sz) As.toArray U := fun U hU hW => ⟨rfl, by rw [hU]; exact hsz, by rw [hU]; exact hP.sub is (k_pick h), hE.warm hW, (hD.sub is hn h).weaken (fun _ _ _ _ => trivial)⟩
/-- calls of methods that write, by invokevirtual (an int, nothing), of a nest mate's constructor -/
theorem kwVI {S : Type} {post : Int32 → S → Prop} {wf : S → va_W} {C : String} (F : kF p s m meth c cc nL ret args own) (hE : kE D T s) (hP : va_P D vwCl W0 H) (hD : va_D A W0) (hS : va_S A H0 H locs) (hA : ∀ q : Nat, H0.size ≤ q → A q) (hl : ls.size = nL) (hM : KI l y bytes maxL ret' fr lo D T (.ref b :: As) w post wf mc ms) (hm : Cond.methodLink own index y ∈ kGW) (hY : kMV C y bytes maxL ret' n) (hR : fr + 1 ≤ R.frames ∧ 8 + (maxL + 11) + lo ≤ R.locals) (isC isR : List Nat) (hnC : va_nd isC = true) (hC : isC.map (fun i => W0[i]?) = w.map some) (hRr : isR.map (fun i => W0[i]?) = wr.map some) (hn1 : va_nd isR = true) (hdis : ∀ i ∈ isR, i ∉ isC) (hb0 : w[0]? = some (b, .inr (ci, fs))) (hci : vwCl[ci]? = some cq) (hq : cq.1 = C) (hn : As.length = n) (hst : st = As.reverse ++ .ref b :: rest) (hW : (rest.map fun v => v.category).sum ≤ 8) (hf : cells + mc ≤ R.cells ∧ slots + ms ≤ R.slots) (hdg : decode cc pc = .ok (.invokevirtual index, 3))
    (kk : ∀ (r : Int32) (u : S) (H1 : Heap) (locs1 : List Loc), post r u → va_P D vwCl (wr ++ wf u) H1 → va_D A (wr ++ wf u) → va_S A H0 H1 locs1 → W p l e R s m args below meth c H1 locs1 (cells + mc) (slots + ms) Q (F0 m (pc + 3) ls (.int r :: rest))) : W p l e R s m args below meth c H locs cells slots Q (F0 m pc ls st) := by
  obtain ⟨f1, f2, f3, f4, f5, f6, f7⟩ := F
  subst hq
  exact kwI (va_runV (As := As) (rest := rest) (nL := nL) ⟨f1, f2, f4, f5, f6⟩ (hM H.size) (cwV n f6 (k_gV hm hY) rfl rfl rfl hY.2.2.2.2 hR) ⟨kWc.blind, va_recv hE.1 (hP.sub isC (k_pick hC)) hci hb0, k_pre hE hP hD rfl isC hnC hC⟩ rfl hn hl hst (lv_room hW) hdg hf) hP hD hS hA isC isR hC hRr hn1 hdis kk
theorem kwVV {S : Type} {post : S → Prop} {wf : S → va_W} {C : String} (F : kF p s m meth c cc nL ret args own) (hE : kE D T s) (hP : va_P D vwCl W0 H) (hD : va_D A W0) (hS : va_S A H0 H locs) (hA : ∀ q : Nat, H0.size ≤ q → A q) (hl : ls.size = nL) (hM : KV l y bytes maxL fr lo D T (.ref b :: As) w post wf mc ms) (hm : Cond.methodLink own index y ∈ kGW) (hY : kMV C y bytes maxL none n) (hR : fr + 1 ≤ R.frames ∧ 8 + (maxL + 11) + lo ≤ R.locals) (isC isR : List Nat) (hnC : va_nd isC = true) (hC : isC.map (fun i => W0[i]?) = w.map some) (hRr : isR.map (fun i => W0[i]?) = wr.map some) (hn1 : va_nd isR = true) (hdis : ∀ i ∈ isR, i ∉ isC) (hb0 : w[0]? = some (b, .inr (ci, fs))) (hci : vwCl[ci]? = some cq) (hq : cq.1 = C) (hn : As.length = n) (hst : st = As.reverse ++ .ref b :: rest) (hW : (rest.map fun v => v.category).sum ≤ 8) (hf : cells + mc ≤ R.cells ∧ slots + ms ≤ R.slots) (hdg : decode cc pc = .ok (.invokevirtual index, 3))
    (kk : ∀ (u : S) (H1 : Heap) (locs1 : List Loc), post u → va_P D vwCl (wr ++ wf u) H1 → va_D A (wr ++ wf u) → va_S A H0 H1 locs1 → W p l e R s m args below meth c H1 locs1 (cells + mc) (slots + ms) Q (F0 m (pc + 3) ls rest)) : W p l e R s m args below meth c H locs cells slots Q (F0 m pc ls st) := by
  obtain ⟨f1, f2, f3, f4, f5, f6, f7⟩ := F
  subst hq
  exact kwV (va_runV (As := As) (rest := rest) (nL := nL) ⟨f1, f2, f4, f5, f6⟩ (hM H.size) (cwV n f6 (k_gV hm hY) rfl rfl rfl hY.2.2.2.2 hR) ⟨kWc.blind, va_recv hE.1 (hP.sub isC (k_pick hC)) hci hb0, k_pre hE hP hD rfl isC hnC hC⟩ rfl hn hl hst (lv_room hW) hdg hf) hP hD hS hA isC isR hC hRr hn1 hdis kk
theorem kwIN {S : Type} {post : S → Prop} {wf : S → va_W} (F : kF p s m meth c cc nL ret args own) (hE : kE D T s) (hP : va_P D vwCl W0 H) (hD : va_D A W0) (hS : va_S A H0 H locs) (hA : ∀ q : Nat, H0.size ≤ q → A q) (hl : ls.size = nL) (hM : KV l y bytes maxL fr lo D T (.ref b :: As) w post wf mc ms) (hY : kMI y bytes maxL n) (hne : (own, index, y, host) ∈ kNest) (hR : fr + 1 ≤ R.frames ∧ 8 + (maxL + 11) + lo ≤ R.locals) (isC isR : List Nat) (hnC : va_nd isC = true) (hC : isC.map (fun i => W0[i]?) = w.map some) (hRr : isR.map (fun i => W0[i]?) = wr.map some) (hn1 : va_nd isR = true) (hdis : ∀ i ∈ isR, i ∉ isC) (hn : As.length = n) (hst : st = As.reverse ++ .ref b :: rest) (hW : (rest.map fun v => v.category).sum ≤ 8) (hf : cells + mc ≤ R.cells ∧ slots + ms ≤ R.slots) (hdg : decode cc pc = .ok (.invokespecial index, 3))
    (kk : ∀ (u : S) (H1 : Heap) (locs1 : List Loc), post u → va_P D vwCl (wr ++ wf u) H1 → va_D A (wr ++ wf u) → va_S A H0 H1 locs1 → W p l e R s m args below meth c H1 locs1 (cells + mc) (slots + ms) Q (F0 m (pc + 3) ls rest)) : W p l e R s m args below meth c H locs cells slots Q (F0 m pc ls st) := by
  obtain ⟨f1, f2, f3, f4, f5, f6, f7⟩ := F
  exact kwV (va_runIN (As := As) (rest := rest) (nL := nL) (host := host) ⟨f1, f2, f4, f5, f6⟩ (hM H.size) ⟨va_cnB n f6 (k_gW hY.2.2.1) rfl rfl rfl (hE.2.1 _ hne) (f6 _ hY.2.1) hY.2.2.2.2 hR, hY.2.2.2.1, f6 _ hY.1⟩ ⟨kWc.blind, k_pre (As := .ref b :: As) hE hP hD rfl isC hnC hC⟩ rfl hn hl hst (lv_room hW) hdg hf) hP hD hS hA isC isR hC hRr hn1 hdis kk
theorem kwII {S : Type} {post : S → Prop} {wf : S → va_W} (F : kF p s m meth c cc nL ret args own) (hE : kE D T s) (hP : va_P D vwCl W0 H) (hD : va_D A W0) (hS : va_S A H0 H locs) (hA : ∀ q : Nat, H0.size ≤ q → A q) (hl : ls.size = nL) (hM : KV l y bytes maxL fr lo D T (.ref b :: As) w post wf mc ms) (hm : Cond.methodLink own index y ∈ kGW) (hY : kMI y bytes maxL n) (hR : fr + 1 ≤ R.frames ∧ 8 + (maxL + 11) + lo ≤ R.locals) (isC isR : List Nat) (hnC : va_nd isC = true) (hC : isC.map (fun i => W0[i]?) = w.map some) (hRr : isR.map (fun i => W0[i]?) = wr.map some) (hn1 : va_nd isR = true) (hdis : ∀ i ∈ isR, i ∉ isC) (hn : As.length = n) (hst : st = As.reverse ++ .ref b :: rest) (hW : (rest.map fun v => v.category).sum ≤ 8) (hf : cells + mc ≤ R.cells ∧ slots + ms ≤ R.slots) (hdg : decode cc pc = .ok (.invokespecial index, 3))
    (kk : ∀ (u : S) (H1 : Heap) (locs1 : List Loc), post u → va_P D vwCl (wr ++ wf u) H1 → va_D A (wr ++ wf u) → va_S A H0 H1 locs1 → W p l e R s m args below meth c H1 locs1 (cells + mc) (slots + ms) Q (F0 m (pc + 3) ls rest)) : W p l e R s m args below meth c H locs cells slots Q (F0 m pc ls st) := by
  obtain ⟨f1, f2, f3, f4, f5, f6, f7⟩ := F
  exact kwV (va_runI (As := As) (rest := rest) (nL := nL) ⟨f1, f2, f4, f5, f6⟩ (hM H.size) (cwI n f6 (k_gW hY.2.2.1) rfl rfl rfl (f6 _ hY.2.1) (f6 _ hm) (f6 _ hY.1) hY.2.2.2.1 hY.2.2.2.2 hR) ⟨kWc.blind, k_pre (As := .ref b :: As) hE hP hD rfl isC hnC hC⟩ rfl hn hl hst (lv_room hW) hdg hf) hP hD hS hA isC isR hC hRr hn1 hdis kk
/-- a new array of a known class -/
theorem k_newa {atype : ArrayType} {ty : FieldType} {cA : ClassId} {t0 : Nat} {a0 : vp_A} {n : Int32} {N' : Nat} (hx : p.tables.exec = Jvm.exec) (hb : c.code = cc) (harr : (Cond.arrayClass ty).before args s = true) (hty : newarray.typeOf atype = ty) (hnar : ∀ cX : ClassId, va_RA s cX ty → s.vm.findClass ("[" ++ ty.toString) = some cX) (hE : kE D T s) (hP : va_P D vwCl W0 H) (hD : va_D A W0) (hS : va_S A H0 H locs) (hA : ∀ q : Nat, H0.size ≤ q → A q) (ht : T[t0]? = some (cA, ty)) (ha : ∀ cA : ClassId, vp_cell cA a0 = arrV cA N' (fun _ => defaultValue ty)) (hn : ¬ n < 0) (hN : n.toNatClampNeg = N') (hbytes : N' * componentBytes ty ≤ 536870912) (hcells : cells + 1 ≤ R.cells) (hslots : slots + N' ≤ R.slots) (hdg : decode cc pc = .ok (.newarray atype, 2))
    (kk : ∀ (q : Nat) (H1 : Heap), va_P D vwCl (W0 ++ [(q, .inl (cA, a0))]) H1 → va_D A (W0 ++ [(q, .inl (cA, a0))]) → va_S A H0 H1 locs → W p l e R s m args below meth c H1 locs (cells + 1) (slots + N') Q (F0 m (pc + 2) ls (.ref q :: rest))) : W p l e R s m args below meth c H locs cells slots Q (F0 m pc ls (.int n :: rest)) := by
  refine va_newa (atype := atype) hx hb (by rw [hty]; exact harr) hty hE.1 hP hD hS hA ha hn hN hbytes hcells hslots hdg (fun q cX H1 hK2 hP2 hD2 hS2 => ?_)
  have h1 := (hE.1.2 t0 _ ht).2
  have h2 := (hK2.2 T.length (cX, ty) (by rw [List.getElem?_append_right (Nat.le_refl _)]; simp)).2
  have e : cX = cA := Option.some.inj ((hnar cX h2).symm.trans (hnar cA h1))
  subst e
  exact kk q H1 hP2 hD2 hS2
theorem k_newq {C : String} {cA : ClassId} {t0 : Nat} {n : Int32} {N' : Nat} (hx : p.tables.exec = Jvm.exec) (hb : c.code = cc) (hown : s.vm.findClass own = some m.cls) (hclink : (Cond.classLink own index C).before args s = true) (hover : va_AO C s) (hE : kE D T s) (hP : va_P D vwCl W0 H) (hD : va_D A W0) (hS : va_S A H0 H locs) (hA : ∀ q : Nat, H0.size ≤ q → A q) (ht : T[t0]? = some (cA, .object C)) (hn : ¬ n < 0) (hN : n.toNatClampNeg = N') (hbytes : N' * 4 ≤ 536870912) (hcells : cells + 1 ≤ R.cells) (hslots : slots + N' ≤ R.slots) (hdg : decode cc pc = .ok (.anewarray index, 3))
    (kk : ∀ (q : Nat) (H1 : Heap), va_P D vwCl (W0 ++ [(q, .inl (cA, N', .inr (.inr (.inr (.inr (fun _ => none))))))]) H1 → va_D A (W0 ++ [(q, .inl (cA, N', .inr (.inr (.inr (.inr (fun _ => none))))))]) → va_S A H0 H1 locs → W p l e R s m args below meth c H1 locs (cells + 1) (slots + N') Q (F0 m (pc + 3) ls (.ref q :: rest))) : W p l e R s m args below meth c H locs cells slots Q (F0 m pc ls (.int n :: rest)) := by
  refine va_newq hx hb hown hclink hover hE.1 hP hD hS hA hn hN hbytes hcells hslots hdg (fun q cX H1 hK2 hP2 hD2 hS2 => ?_)
  obtain ⟨k1, c1, -, -, -, h1⟩ := (hE.1.2 t0 _ ht).2
  obtain ⟨k2, c2, -, -, -, h2⟩ := (hK2.2 T.length (cX, .object C) (by rw [List.getElem?_append_right (Nat.le_refl _)]; simp)).2
  have e : cX = cA := Option.some.inj (h2.symm.trans h1)
  subst e
  exact kk q H1 hP2 hD2 hS2
end KB
/-- the arrays' classes: of ints, longs, bytes, booleans, moments, rules, rows of ints -/
abbrev kTY (cy : Nat → ClassId) : List (ClassId × FieldType) := [(cy 0, .int), (cy 1, .long), (cy 2, .byte), (cy 3, .boolean), (cy 4, .object "StrawButts$Moment"), (cy 5, .object "StrawButts$Rule"), (cy 6, .array .int)]
end
section
theorem inG_X0 : ∀ w ∈ u_ws RX0 TX0 3, w ∈ kGW := List.forall_mem_cons.mpr ⟨kin1 (i := 192) rfl rfl, List.forall_mem_cons.mpr ⟨kin1 (i := 194) rfl rfl, List.forall_mem_cons.mpr ⟨kin1 (i := 196) rfl rfl, fun _ h => absurd h List.not_mem_nil⟩⟩⟩
theorem dfX0 : ∀ j, j < 3 → defaultValue (tyX0 j) = vp_V [.null, .int 0, .int 0] j := fun j hj => match j, hj with
  | 0, _ => rfl
  | 1, _ => rfl
  | 2, _ => rfl
  | q + 3, h => absurd h (by omega)
theorem inG_X1 : ∀ w ∈ u_ws RX1 TX1 1, w ∈ kGW := List.forall_mem_cons.mpr ⟨kin1 (i := 98) rfl rfl, fun _ h => absurd h List.not_mem_nil⟩
theorem dfX1 : ∀ j, j < 1 → defaultValue (tyX1 j) = vp_V [.null] j := fun j hj => match j, hj with
  | 0, _ => rfl
  | q + 1, h => absurd h (by omega)
theorem inG_X2 : ∀ w ∈ u_ws RX2 TX2 5, w ∈ kGW := List.forall_mem_cons.mpr ⟨kin2 (i := 15) rfl rfl, List.forall_mem_cons.mpr ⟨kin2 (i := 17) rfl rfl, List.forall_mem_cons.mpr ⟨kin2 (i := 19) rfl rfl, List.forall_mem_cons.mpr ⟨kin2 (i := 21) rfl rfl, List.forall_mem_cons.mpr ⟨kin2 (i := 23) rfl rfl, fun _ h => absurd h List.not_mem_nil⟩⟩⟩⟩⟩
theorem dfX2 : ∀ j, j < 5 → defaultValue (tyX2 j) = vp_V [.int 0, .int 0, .int 0, .null, .null] j := fun j hj => match j, hj with
  | 0, _ => rfl
  | 1, _ => rfl
  | 2, _ => rfl
  | 3, _ => rfl
  | 4, _ => rfl
  | q + 5, h => absurd h (by omega)
theorem inG_X3 : ∀ w ∈ u_ws RX3 TX3 1, w ∈ kGW := List.forall_mem_cons.mpr ⟨kin1 (i := 103) rfl rfl, fun _ h => absurd h List.not_mem_nil⟩
theorem dfX3 : ∀ j, j < 1 → defaultValue (tyX3 j) = vp_V [.null] j := fun j hj => match j, hj with
  | 0, _ => rfl
  | q + 1, h => absurd h (by omega)
theorem inG_X4 : ∀ w ∈ u_ws RX4 TX4 6, w ∈ kGW := List.forall_mem_cons.mpr ⟨kin1 (i := 166) rfl rfl, List.forall_mem_cons.mpr ⟨kin1 (i := 168) rfl rfl, List.forall_mem_cons.mpr ⟨kin1 (i := 170) rfl rfl, List.forall_mem_cons.mpr ⟨kin1 (i := 172) rfl rfl, List.forall_mem_cons.mpr ⟨kin1 (i := 174) rfl rfl, List.forall_mem_cons.mpr ⟨kin1 (i := 176) rfl rfl, fun _ h => absurd h List.not_mem_nil⟩⟩⟩⟩⟩⟩
theorem dfX4 : ∀ j, j < 6 → defaultValue (tyX4 j) = vp_V [.null, .null, .null, .int 0, .int 0, .int 0] j := fun j hj => match j, hj with
  | 0, _ => rfl
  | 1, _ => rfl
  | 2, _ => rfl
  | 3, _ => rfl
  | 4, _ => rfl
  | 5, _ => rfl
  | q + 6, h => absurd h (by omega)
theorem inG_X5 : ∀ w ∈ u_ws RX5 TX5 4, w ∈ kGW := List.forall_mem_cons.mpr ⟨kin1 (i := 143) rfl rfl, List.forall_mem_cons.mpr ⟨kin1 (i := 145) rfl rfl, List.forall_mem_cons.mpr ⟨kin1 (i := 147) rfl rfl, List.forall_mem_cons.mpr ⟨kin1 (i := 149) rfl rfl, fun _ h => absurd h List.not_mem_nil⟩⟩⟩⟩
theorem dfX5 : ∀ j, j < 4 → defaultValue (tyX5 j) = vp_V [.null, .null, .null, .int 0] j := fun j hj => match j, hj with
  | 0, _ => rfl
  | 1, _ => rfl
  | 2, _ => rfl
  | 3, _ => rfl
  | q + 4, h => absurd h (by omega)
theorem inG_X6 : ∀ w ∈ u_ws RX6 TX6 8, w ∈ kGW := List.forall_mem_cons.mpr ⟨kin1 (i := 223) rfl rfl, List.forall_mem_cons.mpr ⟨kin1 (i := 225) rfl rfl, List.forall_mem_cons.mpr ⟨kin1 (i := 227) rfl rfl, List.forall_mem_cons.mpr ⟨kin1 (i := 229) rfl rfl, List.forall_mem_cons.mpr ⟨kin1 (i := 231) rfl rfl, List.forall_mem_cons.mpr ⟨kin1 (i := 233) rfl rfl, List.forall_mem_cons.mpr ⟨kin1 (i := 235) rfl rfl, List.forall_mem_cons.mpr ⟨kin1 (i := 237) rfl rfl, fun _ h => absurd h List.not_mem_nil⟩⟩⟩⟩⟩⟩⟩⟩
theorem dfX6 : ∀ j, j < 8 → defaultValue (tyX6 j) = vp_V [.null, .null, .null, .int 0, .int 0, .null, .null, .null] j := fun j hj => match j, hj with
  | 0, _ => rfl
  | 1, _ => rfl
  | 2, _ => rfl
  | 3, _ => rfl
  | 4, _ => rfl
  | 5, _ => rfl
  | 6, _ => rfl
  | 7, _ => rfl
  | q + 8, h => absurd h (by omega)
theorem inG_X7 : ∀ w ∈ u_ws RX7 TX7 2, w ∈ kGW := List.forall_mem_cons.mpr ⟨kin3 (i := 94) rfl rfl, List.forall_mem_cons.mpr ⟨kin3 (i := 96) rfl rfl, fun _ h => absurd h List.not_mem_nil⟩⟩
theorem dfX7 : ∀ j, j < 2 → defaultValue (tyX7 j) = vp_V [.null, .int 0] j := fun j hj => match j, hj with
  | 0, _ => rfl
  | 1, _ => rfl
  | q + 2, h => absurd h (by omega)
theorem inG_X8 : ∀ w ∈ u_ws RX8 TX8 3, w ∈ kGW := List.forall_mem_cons.mpr ⟨kin1 (i := 115) rfl rfl, List.forall_mem_cons.mpr ⟨kin1 (i := 117) rfl rfl, List.forall_mem_cons.mpr ⟨kin1 (i := 119) rfl rfl, fun _ h => absurd h List.not_mem_nil⟩⟩⟩
theorem dfX8 : ∀ j, j < 3 → defaultValue (tyX8 j) = vp_V [.null, .int 0, .int 0] j := fun j hj => match j, hj with
  | 0, _ => rfl
  | 1, _ => rfl
  | 2, _ => rfl
  | q + 3, h => absurd h (by omega)
theorem inG_X9 : ∀ w ∈ u_ws RX9 TX9 3, w ∈ kGW := List.forall_mem_cons.mpr ⟨kin2 (i := 38) rfl rfl, List.forall_mem_cons.mpr ⟨kin2 (i := 40) rfl rfl, List.forall_mem_cons.mpr ⟨kin2 (i := 42) rfl rfl, fun _ h => absurd h List.not_mem_nil⟩⟩⟩
theorem dfX9 : ∀ j, j < 3 → defaultValue (tyX9 j) = vp_V [.int 0, .int 0, .null] j := fun j hj => match j, hj with
  | 0, _ => rfl
  | 1, _ => rfl
  | 2, _ => rfl
  | q + 3, h => absurd h (by omega)
theorem inG_X10 : ∀ w ∈ u_ws RX10 TX10 11, w ∈ kGW := List.forall_mem_cons.mpr ⟨kin1 (i := 55) rfl rfl, List.forall_mem_cons.mpr ⟨kin1 (i := 57) rfl rfl, List.forall_mem_cons.mpr ⟨kin1 (i := 59) rfl rfl, List.forall_mem_cons.mpr ⟨kin1 (i := 61) rfl rfl, List.forall_mem_cons.mpr ⟨kin1 (i := 63) rfl rfl, List.forall_mem_cons.mpr ⟨kin1 (i := 65) rfl rfl, List.forall_mem_cons.mpr ⟨kin1 (i := 67) rfl rfl, List.forall_mem_cons.mpr ⟨kin1 (i := 69) rfl rfl, List.forall_mem_cons.mpr ⟨kin1 (i := 71) rfl rfl, List.forall_mem_cons.mpr ⟨kin1 (i := 73) rfl rfl, List.forall_mem_cons.mpr ⟨kin1 (i := 75) rfl rfl, fun _ h => absurd h List.not_mem_nil⟩⟩⟩⟩⟩⟩⟩⟩⟩⟩⟩
theorem dfX10 : ∀ j, j < 11 → defaultValue (tyX10 j) = vp_V [.null, .int 0, .null, .null, .null, .int 0, .int 0, .int 0, .int 0, .int 0, .int 0] j := fun j hj => match j, hj with
  | 0, _ => rfl
  | 1, _ => rfl
  | 2, _ => rfl
  | 3, _ => rfl
  | 4, _ => rfl
  | 5, _ => rfl
  | 6, _ => rfl
  | 7, _ => rfl
  | 8, _ => rfl
  | 9, _ => rfl
  | 10, _ => rfl
  | q + 11, h => absurd h (by omega)
theorem inG_X11 : ∀ w ∈ u_ws RX11 TX11 11, w ∈ kGW := List.forall_mem_cons.mpr ⟨kin2 (i := 56) rfl rfl, List.forall_mem_cons.mpr ⟨kin2 (i := 58) rfl rfl, List.forall_mem_cons.mpr ⟨kin2 (i := 60) rfl rfl, List.forall_mem_cons.mpr ⟨kin2 (i := 62) rfl rfl, List.forall_mem_cons.mpr ⟨kin2 (i := 64) rfl rfl, List.forall_mem_cons.mpr ⟨kin2 (i := 66) rfl rfl, List.forall_mem_cons.mpr ⟨kin2 (i := 68) rfl rfl, List.forall_mem_cons.mpr ⟨kin2 (i := 70) rfl rfl, List.forall_mem_cons.mpr ⟨kin2 (i := 72) rfl rfl, List.forall_mem_cons.mpr ⟨kin2 (i := 74) rfl rfl, List.forall_mem_cons.mpr ⟨kin2 (i := 76) rfl rfl, fun _ h => absurd h List.not_mem_nil⟩⟩⟩⟩⟩⟩⟩⟩⟩⟩⟩
theorem dfX11 : ∀ j, j < 11 → defaultValue (tyX11 j) = vp_V [.null, .null, .null, .null, .int 0, .null, .null, .null, .null, .null, .null] j := fun j hj => match j, hj with
  | 0, _ => rfl
  | 1, _ => rfl
  | 2, _ => rfl
  | 3, _ => rfl
  | 4, _ => rfl
  | 5, _ => rfl
  | 6, _ => rfl
  | 7, _ => rfl
  | 8, _ => rfl
  | 9, _ => rfl
  | 10, _ => rfl
  | q + 11, h => absurd h (by omega)
theorem inG_X12 : ∀ w ∈ u_ws RX12 TX12 39, w ∈ kGW := List.forall_mem_cons.mpr ⟨kin5 (i := 7) rfl rfl, List.forall_mem_cons.mpr ⟨kin5 (i := 9) rfl rfl, List.forall_mem_cons.mpr ⟨kin5 (i := 11) rfl rfl, List.forall_mem_cons.mpr ⟨kin5 (i := 13) rfl rfl, List.forall_mem_cons.mpr ⟨kin5 (i := 15) rfl rfl, List.forall_mem_cons.mpr ⟨kin5 (i := 17) rfl rfl, List.forall_mem_cons.mpr ⟨kin5 (i := 19) rfl rfl, List.forall_mem_cons.mpr ⟨kin5 (i := 21) rfl rfl, List.forall_mem_cons.mpr ⟨kin5 (i := 23) rfl rfl, List.forall_mem_cons.mpr ⟨kin5 (i := 25) rfl rfl, List.forall_mem_cons.mpr ⟨kin5 (i := 27) rfl rfl, List.forall_mem_cons.mpr ⟨kin5 (i := 29) rfl rfl, List.forall_mem_cons.mpr ⟨kin5 (i := 31) rfl rfl, List.forall_mem_cons.mpr ⟨kin5 (i := 33) rfl rfl, List.forall_mem_cons.mpr ⟨kin5 (i := 35) rfl rfl, List.forall_mem_cons.mpr ⟨kin5 (i := 37) rfl rfl, List.forall_mem_cons.mpr ⟨kin5 (i := 39) rfl rfl, List.forall_mem_cons.mpr ⟨kin5 (i := 41) rfl rfl, List.forall_mem_cons.mpr ⟨kin5 (i := 43) rfl rfl, List.forall_mem_cons.mpr ⟨kin5 (i := 45) rfl rfl, List.forall_mem_cons.mpr ⟨kin5 (i := 47) rfl rfl, List.forall_mem_cons.mpr ⟨kin5 (i := 49) rfl rfl, List.forall_mem_cons.mpr ⟨kin5 (i := 51) rfl rfl, List.forall_mem_cons.mpr ⟨kin5 (i := 53) rfl rfl, List.forall_mem_cons.mpr ⟨kin5 (i := 55) rfl rfl, List.forall_mem_cons.mpr ⟨kin5 (i := 57) rfl rfl, List.forall_mem_cons.mpr ⟨kin5 (i := 59) rfl rfl, List.forall_mem_cons.mpr ⟨kin5 (i := 61) rfl rfl, List.forall_mem_cons.mpr ⟨kin5 (i := 63) rfl rfl, List.forall_mem_cons.mpr ⟨kin5 (i := 65) rfl rfl, List.forall_mem_cons.mpr ⟨kin5 (i := 67) rfl rfl, List.forall_mem_cons.mpr ⟨kin5 (i := 69) rfl rfl, List.forall_mem_cons.mpr ⟨kin5 (i := 71) rfl rfl, List.forall_mem_cons.mpr ⟨kin5 (i := 73) rfl rfl, List.forall_mem_cons.mpr ⟨kin5 (i := 75) rfl rfl, List.forall_mem_cons.mpr ⟨kin5 (i := 77) rfl rfl, List.forall_mem_cons.mpr ⟨kin5 (i := 79) rfl rfl, List.forall_mem_cons.mpr ⟨kin5 (i := 81) rfl rfl, List.forall_mem_cons.mpr ⟨kin5 (i := 83) rfl rfl, fun _ h => absurd h List.not_mem_nil⟩⟩⟩⟩⟩⟩⟩⟩⟩⟩⟩⟩⟩⟩⟩⟩⟩⟩⟩⟩⟩⟩⟩⟩⟩⟩⟩⟩⟩⟩⟩⟩⟩⟩⟩⟩⟩⟩⟩
theorem dfX12 : ∀ j, j < 39 → defaultValue (tyX12 j) = vp_V [.null, .int 0, .int 0, .null, .null, .null, .null, .null, .int 0, .int 0, .int 0, .int 0, .int 0, .int 0, .int 0, .null, .int 0, .null, .int 0, .null, .null, .int 0, .int 0, .int 0, .null, .null, .null, .int 0, .null, .null, .null, .null, .null, .null, .long 0, .null, .null, .null, .null] j := fun j hj => match j, hj with
  | 0, _ => rfl
  | 1, _ => rfl
  | 2, _ => rfl
  | 3, _ => rfl
  | 4, _ => rfl
  | 5, _ => rfl
  | 6, _ => rfl
  | 7, _ => rfl
  | 8, _ => rfl
  | 9, _ => rfl
  | 10, _ => rfl
  | 11, _ => rfl
  | 12, _ => rfl
  | 13, _ => rfl
  | 14, _ => rfl
  | 15, _ => rfl
  | 16, _ => rfl
  | 17, _ => rfl
  | 18, _ => rfl
  | 19, _ => rfl
  | 20, _ => rfl
  | 21, _ => rfl
  | 22, _ => rfl
  | 23, _ => rfl
  | 24, _ => rfl
  | 25, _ => rfl
  | 26, _ => rfl
  | 27, _ => rfl
  | 28, _ => rfl
  | 29, _ => rfl
  | 30, _ => rfl
  | 31, _ => rfl
  | 32, _ => rfl
  | 33, _ => rfl
  | 34, _ => rfl
  | 35, _ => rfl
  | 36, _ => rfl
  | 37, _ => rfl
  | 38, _ => rfl
  | q + 39, h => absurd h (by omega)
end
section
theorem dX11_within_0 : decode cX11_within 0 = .ok (.iload_n 0, 1) := by decide +kernel
theorem dX11_within_1 : decode cX11_within 1 = .ok (.iload_n 1, 1) := by decide +kernel
theorem dX11_within_2 : decode cX11_within 2 = .ok (.if_icmp .lt 12, 3) := by decide +kernel
theorem dX11_within_5 : decode cX11_within 5 = .ok (.iload_n 0, 1) := by decide +kernel
theorem dX11_within_6 : decode cX11_within 6 = .ok (.iload_n 2, 1) := by decide +kernel
theorem dX11_within_7 : decode cX11_within 7 = .ok (.if_icmp .gt 7, 3) := by decide +kernel
theorem dX11_within_10 : decode cX11_within 10 = .ok (.iconst 1, 1) := by decide +kernel
theorem dX11_within_11 : decode cX11_within 11 = .ok (.goto 4, 3) := by decide +kernel
theorem dX11_within_14 : decode cX11_within 14 = .ok (.iconst 0, 1) := by decide +kernel
theorem dX11_within_15 : decode cX11_within 15 = .ok (.ireturn, 1) := by decide +kernel
end
section
set_option maxHeartbeats 4000000 in
set_option maxRecDepth 100000 in
theorem c_within (l : Launch) (D : va_G) (cy : Nat → ClassId) (x0 x1 x2 : Int32) : KP l yX11_within cX11_within 3 (some .boolean) 0 0 D (kTY cy) [.int x0, .int x1, .int x2] [] (fun r => r = if x0 < x1 ∨ x2 < x0 then 0 else 1) := by
  refine KP.of (by decide) (by decide) (fun p e s m below meth c ls F hE hP hl => ?_)
  have F : kF p s m meth c cX11_within 3 (some .boolean) _ RX11 := F
  obtain ⟨hx, hb, hr, hml, hown, hG, hlk⟩ := id F
  have hl : lv_has ls 3 [(0, .int x0), (1, .int x1), (2, .int x2)] := hl
  refine lv_iload_n hx hb dX11_within_0 rfl (lv_at hl 0 rfl) ?_
  refine lv_iload_n hx hb dX11_within_1 rfl (lv_at hl 1 rfl) ?_
  refine lv_icmp_lt (tgt := 14) hx hb dX11_within_2 (by decide) (fun c_1 => ?_) (fun c_1 => ?_)
  · refine lv_iconst (v := 0) hx hb dX11_within_14 (by decide) ?_
    exact KP.rt F rfl (by rw [if_pos (Or.inl c_1)]) dX11_within_15
  · refine lv_iload_n hx hb dX11_within_5 rfl (lv_at hl 0 rfl) ?_
    refine lv_iload_n hx hb dX11_within_6 rfl (lv_at hl 2 rfl) ?_
    refine lv_icmp_gt (tgt := 14) hx hb dX11_within_7 (by decide) (fun c_2 => ?_) (fun c_2 => ?_)
    · refine lv_iconst (v := 0) hx hb dX11_within_14 (by decide) ?_
      exact KP.rt F rfl (by rw [if_pos (Or.inr c_2)]) dX11_within_15
    · refine lv_iconst (v := 1) hx hb dX11_within_10 (by decide) ?_
      refine lv_goto (tgt := 15) hx hb dX11_within_11 (by decide) ?_
      exact KP.rt F rfl (by rw [if_neg (fun q => q.elim c_1 c_2)]) dX11_within_15
end
